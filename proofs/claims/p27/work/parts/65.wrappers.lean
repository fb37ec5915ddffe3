section
/-! PART 65: the law's own calls of the class: what they answer, what they catch -/
abbrev qL_wrap : zY := (yL_wrap, cL_wrap, 6, some .int)
theorem kh_wrap : Cond.codeWith (qL_wrap).1 (qL_wrap).2.1 (qL_wrap).2.2.1 (qL_wrap).2.2.2 [(0, 13, 16, 19), (0, 13, 20, 21)] ∈ gw := gw_3 (i := 212) rfl rfl
theorem ch_wrap {X : zX} {cc : ByteArray} {n9 : Nat} {rm rmc : Room} (C : z_C X cc RL n9 rm) (hR : rmc.frames + 1 ≤ rm.frames ∧ 8 + (6 + 11) + rmc.locals ≤ rm.locals) : vx_CSW (z_R X) (z_s X) (z_a X) RL 144 (qL_wrap).1 (qL_wrap).2.1 (qL_wrap).2.2.1 (qL_wrap).2.2.2 [(0, 13, 16, 19), (0, 13, 20, 21)] (z_hs qL_wrap [(0, 13, 16, 19), (0, 13, 20, 21)]) rmc rmc.cells rmc.slots 5 := z_cwH (q := qL_wrap) C kh_wrap kw690 kw691 kw0 (by decide +kernel) hR
abbrev qL_fresh : zY := (yL_fresh, cL_fresh, 5, some .int)
theorem kh_fresh : Cond.codeWith (qL_fresh).1 (qL_fresh).2.1 (qL_fresh).2.2.1 (qL_fresh).2.2.2 [(0, 11, 14, 19), (0, 11, 18, 21)] ∈ gw := gw_4 (i := 11) rfl rfl
theorem ch_fresh {X : zX} {cc : ByteArray} {n9 : Nat} {rm rmc : Room} (C : z_C X cc RL n9 rm) (hR : rmc.frames + 1 ≤ rm.frames ∧ 8 + (5 + 11) + rmc.locals ≤ rm.locals) : vx_CSW (z_R X) (z_s X) (z_a X) RL 150 (qL_fresh).1 (qL_fresh).2.1 (qL_fresh).2.2.1 (qL_fresh).2.2.2 [(0, 11, 14, 19), (0, 11, 18, 21)] (z_hs qL_fresh [(0, 11, 14, 19), (0, 11, 18, 21)]) rmc rmc.cells rmc.slots 4 := z_cwH (q := qL_fresh) C kh_fresh kw729 kw730 kw0 (by decide +kernel) hR
abbrev qL_twin : zY := (yL_twin, cL_twin, 5, some .int)
theorem kh_twin : Cond.codeWith (qL_twin).1 (qL_twin).2.1 (qL_twin).2.2.1 (qL_twin).2.2.2 [(0, 11, 14, 19)] ∈ gw := gw_4 (i := 18) rfl rfl
theorem ch_twin {X : zX} {cc : ByteArray} {n9 : Nat} {rm rmc : Room} (C : z_C X cc RL n9 rm) (hR : rmc.frames + 1 ≤ rm.frames ∧ 8 + (5 + 11) + rmc.locals ≤ rm.locals) : vx_CSW (z_R X) (z_s X) (z_a X) RL 154 (qL_twin).1 (qL_twin).2.1 (qL_twin).2.2.1 (qL_twin).2.2.2 [(0, 11, 14, 19)] (z_hs qL_twin [(0, 11, 14, 19)]) rmc rmc.cells rmc.slots 4 := z_cwH (q := qL_twin) C kh_twin kw736 kw737 kw0 (by decide +kernel) hR
abbrev qL_rest : zY := (yL_rest, cL_rest, 5, some .int)
theorem kh_rest : Cond.codeWith (qL_rest).1 (qL_rest).2.1 (qL_rest).2.2.1 (qL_rest).2.2.2 [(0, 11, 14, 19)] ∈ gw := gw_4 (i := 25) rfl rfl
theorem ch_rest {X : zX} {cc : ByteArray} {n9 : Nat} {rm rmc : Room} (C : z_C X cc RL n9 rm) (hR : rmc.frames + 1 ≤ rm.frames ∧ 8 + (5 + 11) + rmc.locals ≤ rm.locals) : vx_CSW (z_R X) (z_s X) (z_a X) RL 157 (qL_rest).1 (qL_rest).2.1 (qL_rest).2.2.1 (qL_rest).2.2.2 [(0, 11, 14, 19)] (z_hs qL_rest [(0, 11, 14, 19)]) rmc rmc.cells rmc.slots 4 := z_cwH (q := qL_rest) C kh_rest kw743 kw744 kw0 (by decide +kernel) hR
abbrev qL_part : zY := (yL_part, cL_part, 7, some .int)
theorem kh_part : Cond.codeWith (qL_part).1 (qL_part).2.1 (qL_part).2.2.1 (qL_part).2.2.2 [(0, 15, 18, 19)] ∈ gw := gw_4 (i := 32) rfl rfl
theorem ch_part {X : zX} {cc : ByteArray} {n9 : Nat} {rm rmc : Room} (C : z_C X cc RL n9 rm) (hR : rmc.frames + 1 ≤ rm.frames ∧ 8 + (7 + 11) + rmc.locals ≤ rm.locals) : vx_CSW (z_R X) (z_s X) (z_a X) RL 160 (qL_part).1 (qL_part).2.1 (qL_part).2.2.1 (qL_part).2.2.2 [(0, 15, 18, 19)] (z_hs qL_part [(0, 15, 18, 19)]) rmc rmc.cells rmc.slots 6 := z_cwH (q := qL_part) C kh_part kw750 kw751 kw0 (by decide +kernel) hR
abbrev qL_reader : zY := (yL_reader, cL_reader, 5, some .int)
theorem kh_reader : Cond.codeWith (qL_reader).1 (qL_reader).2.1 (qL_reader).2.2.1 (qL_reader).2.2.2 [(0, 11, 14, 19)] ∈ gw := gw_4 (i := 43) rfl rfl
theorem ch_reader {X : zX} {cc : ByteArray} {n9 : Nat} {rm rmc : Room} (C : z_C X cc RL n9 rm) (hR : rmc.frames + 1 ≤ rm.frames ∧ 8 + (5 + 11) + rmc.locals ≤ rm.locals) : vx_CSW (z_R X) (z_s X) (z_a X) RL 164 (qL_reader).1 (qL_reader).2.1 (qL_reader).2.2.1 (qL_reader).2.2.2 [(0, 11, 14, 19)] (z_hs qL_reader [(0, 11, 14, 19)]) rmc rmc.cells rmc.slots 4 := z_cwH (q := qL_reader) C kh_reader kw761 kw762 kw0 (by decide +kernel) hR
abbrev qL_exchange : zY := (yL_exchange, cL_exchange, 5, some .int)
theorem kh_exchange : Cond.codeWith (qL_exchange).1 (qL_exchange).2.1 (qL_exchange).2.2.1 (qL_exchange).2.2.2 [(0, 11, 14, 19)] ∈ gw := gw_4 (i := 50) rfl rfl
theorem ch_exchange {X : zX} {cc : ByteArray} {n9 : Nat} {rm rmc : Room} (C : z_C X cc RL n9 rm) (hR : rmc.frames + 1 ≤ rm.frames ∧ 8 + (5 + 11) + rmc.locals ≤ rm.locals) : vx_CSW (z_R X) (z_s X) (z_a X) RL 167 (qL_exchange).1 (qL_exchange).2.1 (qL_exchange).2.2.1 (qL_exchange).2.2.2 [(0, 11, 14, 19)] (z_hs qL_exchange [(0, 11, 14, 19)]) rmc rmc.cells rmc.slots 4 := z_cwH (q := qL_exchange) C kh_exchange kw768 kw769 kw0 (by decide +kernel) hR
abbrev qL_go : zY := (yL_go, cL_go, 5, some .int)
theorem kh_go : Cond.codeWith (qL_go).1 (qL_go).2.1 (qL_go).2.2.1 (qL_go).2.2.2 [(0, 11, 14, 19)] ∈ gw := gw_4 (i := 61) rfl rfl
theorem ch_go {X : zX} {cc : ByteArray} {n9 : Nat} {rm rmc : Room} (C : z_C X cc RL n9 rm) (hR : rmc.frames + 1 ≤ rm.frames ∧ 8 + (5 + 11) + rmc.locals ≤ rm.locals) : vx_CSW (z_R X) (z_s X) (z_a X) RL 170 (qL_go).1 (qL_go).2.1 (qL_go).2.2.1 (qL_go).2.2.2 [(0, 11, 14, 19)] (z_hs qL_go [(0, 11, 14, 19)]) rmc rmc.cells rmc.slots 4 := z_cwH (q := qL_go) C kh_go kw779 kw780 kw0 (by decide +kernel) hR
abbrev qL_move : zY := (yL_move, cL_move, 5, some .int)
theorem kh_move : Cond.codeWith (qL_move).1 (qL_move).2.1 (qL_move).2.2.1 (qL_move).2.2.2 [(0, 11, 14, 19), (0, 11, 18, 21)] ∈ gw := gw_4 (i := 72) rfl rfl
theorem ch_move {X : zX} {cc : ByteArray} {n9 : Nat} {rm rmc : Room} (C : z_C X cc RL n9 rm) (hR : rmc.frames + 1 ≤ rm.frames ∧ 8 + (5 + 11) + rmc.locals ≤ rm.locals) : vx_CSW (z_R X) (z_s X) (z_a X) RL 173 (qL_move).1 (qL_move).2.1 (qL_move).2.2.1 (qL_move).2.2.2 [(0, 11, 14, 19), (0, 11, 18, 21)] (z_hs qL_move [(0, 11, 14, 19), (0, 11, 18, 21)]) rmc rmc.cells rmc.slots 4 := z_cwH (q := qL_move) C kh_move kw790 kw791 kw0 (by decide +kernel) hR
abbrev qL_end : zY := (yL_end, cL_end, 5, some .int)
theorem kh_end : Cond.codeWith (qL_end).1 (qL_end).2.1 (qL_end).2.2.1 (qL_end).2.2.2 [(0, 11, 14, 19)] ∈ gw := gw_4 (i := 79) rfl rfl
theorem ch_end {X : zX} {cc : ByteArray} {n9 : Nat} {rm rmc : Room} (C : z_C X cc RL n9 rm) (hR : rmc.frames + 1 ≤ rm.frames ∧ 8 + (5 + 11) + rmc.locals ≤ rm.locals) : vx_CSW (z_R X) (z_s X) (z_a X) RL 176 (qL_end).1 (qL_end).2.1 (qL_end).2.2.1 (qL_end).2.2.2 [(0, 11, 14, 19)] (z_hs qL_end [(0, 11, 14, 19)]) rmc rmc.cells rmc.slots 4 := z_cwH (q := qL_end) C kh_end kw797 kw798 kw0 (by decide +kernel) hR
abbrev qL_stretch : zY := (yL_stretch, cL_stretch, 5, some .int)
theorem kh_stretch : Cond.codeWith (qL_stretch).1 (qL_stretch).2.1 (qL_stretch).2.2.1 (qL_stretch).2.2.2 [(0, 11, 14, 19), (0, 11, 18, 21)] ∈ gw := gw_4 (i := 90) rfl rfl
theorem ch_stretch {X : zX} {cc : ByteArray} {n9 : Nat} {rm rmc : Room} (C : z_C X cc RL n9 rm) (hR : rmc.frames + 1 ≤ rm.frames ∧ 8 + (5 + 11) + rmc.locals ≤ rm.locals) : vx_CSW (z_R X) (z_s X) (z_a X) RL 179 (qL_stretch).1 (qL_stretch).2.1 (qL_stretch).2.2.1 (qL_stretch).2.2.2 [(0, 11, 14, 19), (0, 11, 18, 21)] (z_hs qL_stretch [(0, 11, 14, 19), (0, 11, 18, 21)]) rmc rmc.cells rmc.slots 4 := z_cwH (q := qL_stretch) C kh_stretch kw808 kw809 kw0 (by decide +kernel) hR
abbrev qL_mark : zY := (yL_mark, cL_mark, 4, some .int)
theorem kh_mark : Cond.codeWith (qL_mark).1 (qL_mark).2.1 (qL_mark).2.2.1 (qL_mark).2.2.2 [(0, 10, 13, 19)] ∈ gw := gw_4 (i := 97) rfl rfl
theorem ch_mark {X : zX} {cc : ByteArray} {n9 : Nat} {rm rmc : Room} (C : z_C X cc RL n9 rm) (hR : rmc.frames + 1 ≤ rm.frames ∧ 8 + (4 + 11) + rmc.locals ≤ rm.locals) : vx_CSW (z_R X) (z_s X) (z_a X) RL 182 (qL_mark).1 (qL_mark).2.1 (qL_mark).2.2.1 (qL_mark).2.2.2 [(0, 10, 13, 19)] (z_hs qL_mark [(0, 10, 13, 19)]) rmc rmc.cells rmc.slots 3 := z_cwH (q := qL_mark) C kh_mark kw815 kw816 kw0 (by decide +kernel) hR
abbrev qL_back : zY := (yL_back, cL_back, 4, some .int)
theorem kh_back : Cond.codeWith (qL_back).1 (qL_back).2.1 (qL_back).2.2.1 (qL_back).2.2.2 [(0, 10, 13, 19)] ∈ gw := gw_4 (i := 104) rfl rfl
theorem ch_back {X : zX} {cc : ByteArray} {n9 : Nat} {rm rmc : Room} (C : z_C X cc RL n9 rm) (hR : rmc.frames + 1 ≤ rm.frames ∧ 8 + (4 + 11) + rmc.locals ≤ rm.locals) : vx_CSW (z_R X) (z_s X) (z_a X) RL 186 (qL_back).1 (qL_back).2.1 (qL_back).2.2.1 (qL_back).2.2.2 [(0, 10, 13, 19)] (z_hs qL_back [(0, 10, 13, 19)]) rmc rmc.cells rmc.slots 3 := z_cwH (q := qL_back) C kh_back kw822 kw823 kw0 (by decide +kernel) hR
abbrev qL_clear : zY := (yL_clear, cL_clear, 4, some .int)
theorem kh_clear : Cond.codeWith (qL_clear).1 (qL_clear).2.1 (qL_clear).2.2.1 (qL_clear).2.2.2 [(0, 10, 13, 19)] ∈ gw := gw_4 (i := 111) rfl rfl
theorem ch_clear {X : zX} {cc : ByteArray} {n9 : Nat} {rm rmc : Room} (C : z_C X cc RL n9 rm) (hR : rmc.frames + 1 ≤ rm.frames ∧ 8 + (4 + 11) + rmc.locals ≤ rm.locals) : vx_CSW (z_R X) (z_s X) (z_a X) RL 189 (qL_clear).1 (qL_clear).2.1 (qL_clear).2.2.1 (qL_clear).2.2.2 [(0, 10, 13, 19)] (z_hs qL_clear [(0, 10, 13, 19)]) rmc rmc.cells rmc.slots 3 := z_cwH (q := qL_clear) C kh_clear kw829 kw830 kw0 (by decide +kernel) hR
abbrev qL_flip : zY := (yL_flip, cL_flip, 4, some .int)
theorem kh_flip : Cond.codeWith (qL_flip).1 (qL_flip).2.1 (qL_flip).2.2.1 (qL_flip).2.2.2 [(0, 10, 13, 19)] ∈ gw := gw_4 (i := 119) rfl rfl
theorem ch_flip {X : zX} {cc : ByteArray} {n9 : Nat} {rm rmc : Room} (C : z_C X cc RL n9 rm) (hR : rmc.frames + 1 ≤ rm.frames ∧ 8 + (4 + 11) + rmc.locals ≤ rm.locals) : vx_CSW (z_R X) (z_s X) (z_a X) RL 192 (qL_flip).1 (qL_flip).2.1 (qL_flip).2.2.1 (qL_flip).2.2.2 [(0, 10, 13, 19)] (z_hs qL_flip [(0, 10, 13, 19)]) rmc rmc.cells rmc.slots 3 := z_cwH (q := qL_flip) C kh_flip kw837 kw838 kw0 (by decide +kernel) hR
abbrev qL_rewind : zY := (yL_rewind, cL_rewind, 4, some .int)
theorem kh_rewind : Cond.codeWith (qL_rewind).1 (qL_rewind).2.1 (qL_rewind).2.2.1 (qL_rewind).2.2.2 [(0, 10, 13, 19)] ∈ gw := gw_4 (i := 126) rfl rfl
theorem ch_rewind {X : zX} {cc : ByteArray} {n9 : Nat} {rm rmc : Room} (C : z_C X cc RL n9 rm) (hR : rmc.frames + 1 ≤ rm.frames ∧ 8 + (4 + 11) + rmc.locals ≤ rm.locals) : vx_CSW (z_R X) (z_s X) (z_a X) RL 195 (qL_rewind).1 (qL_rewind).2.1 (qL_rewind).2.2.1 (qL_rewind).2.2.2 [(0, 10, 13, 19)] (z_hs qL_rewind [(0, 10, 13, 19)]) rmc rmc.cells rmc.slots 3 := z_cwH (q := qL_rewind) C kh_rewind kw844 kw845 kw0 (by decide +kernel) hR
abbrev qL_put : zY := (yL_put, cL_put, 5, some .int)
theorem kh_put : Cond.codeWith (qL_put).1 (qL_put).2.1 (qL_put).2.2.1 (qL_put).2.2.2 [(0, 11, 14, 19), (0, 11, 18, 21)] ∈ gw := gw_4 (i := 133) rfl rfl
theorem ch_put {X : zX} {cc : ByteArray} {n9 : Nat} {rm rmc : Room} (C : z_C X cc RL n9 rm) (hR : rmc.frames + 1 ≤ rm.frames ∧ 8 + (5 + 11) + rmc.locals ≤ rm.locals) : vx_CSW (z_R X) (z_s X) (z_a X) RL 198 (qL_put).1 (qL_put).2.1 (qL_put).2.2.1 (qL_put).2.2.2 [(0, 11, 14, 19), (0, 11, 18, 21)] (z_hs qL_put [(0, 11, 14, 19), (0, 11, 18, 21)]) rmc rmc.cells rmc.slots 4 := z_cwH (q := qL_put) C kh_put kw851 kw852 kw0 (by decide +kernel) hR
abbrev qL_putAt : zY := (yL_putAt, cL_putAt, 6, some .int)
theorem kh_putAt : Cond.codeWith (qL_putAt).1 (qL_putAt).2.1 (qL_putAt).2.2.1 (qL_putAt).2.2.2 [(0, 13, 16, 19), (0, 13, 20, 21)] ∈ gw := gw_4 (i := 160) rfl rfl
theorem ch_putAt {X : zX} {cc : ByteArray} {n9 : Nat} {rm rmc : Room} (C : z_C X cc RL n9 rm) (hR : rmc.frames + 1 ≤ rm.frames ∧ 8 + (6 + 11) + rmc.locals ≤ rm.locals) : vx_CSW (z_R X) (z_s X) (z_a X) RL 201 (qL_putAt).1 (qL_putAt).2.1 (qL_putAt).2.2.1 (qL_putAt).2.2.2 [(0, 13, 16, 19), (0, 13, 20, 21)] (z_hs qL_putAt [(0, 13, 16, 19), (0, 13, 20, 21)]) rmc rmc.cells rmc.slots 5 := z_cwH (q := qL_putAt) C kh_putAt kw878 kw879 kw0 (by decide +kernel) hR
abbrev qL_bring : zY := (yL_bring, cL_bring, 7, some .int)
theorem kh_bring : Cond.codeWith (qL_bring).1 (qL_bring).2.1 (qL_bring).2.2.1 (qL_bring).2.2.2 [(0, 15, 18, 19)] ∈ gw := gw_4 (i := 172) rfl rfl
theorem ch_bring {X : zX} {cc : ByteArray} {n9 : Nat} {rm rmc : Room} (C : z_C X cc RL n9 rm) (hR : rmc.frames + 1 ≤ rm.frames ∧ 8 + (7 + 11) + rmc.locals ≤ rm.locals) : vx_CSW (z_R X) (z_s X) (z_a X) RL 204 (qL_bring).1 (qL_bring).2.1 (qL_bring).2.2.1 (qL_bring).2.2.2 [(0, 15, 18, 19)] (z_hs qL_bring [(0, 15, 18, 19)]) rmc rmc.cells rmc.slots 6 := z_cwH (q := qL_bring) C kh_bring kw890 kw891 kw0 (by decide +kernel) hR
abbrev qL_fill : zY := (yL_fill, cL_fill, 7, some .int)
theorem kh_fill : Cond.codeWith (qL_fill).1 (qL_fill).2.1 (qL_fill).2.2.1 (qL_fill).2.2.2 [(0, 15, 18, 19), (0, 15, 22, 21)] ∈ gw := gw_4 (i := 179) rfl rfl
theorem ch_fill {X : zX} {cc : ByteArray} {n9 : Nat} {rm rmc : Room} (C : z_C X cc RL n9 rm) (hR : rmc.frames + 1 ≤ rm.frames ∧ 8 + (7 + 11) + rmc.locals ≤ rm.locals) : vx_CSW (z_R X) (z_s X) (z_a X) RL 207 (qL_fill).1 (qL_fill).2.1 (qL_fill).2.2.1 (qL_fill).2.2.2 [(0, 15, 18, 19), (0, 15, 22, 21)] (z_hs qL_fill [(0, 15, 18, 19), (0, 15, 22, 21)]) rmc rmc.cells rmc.slots 6 := z_cwH (q := qL_fill) C kh_fill kw897 kw898 kw0 (by decide +kernel) hR
abbrev qL_pack : zY := (yL_pack, cL_pack, 4, some .int)
theorem kh_pack : Cond.codeWith (qL_pack).1 (qL_pack).2.1 (qL_pack).2.2.1 (qL_pack).2.2.2 [(0, 10, 13, 19)] ∈ gw := gw_4 (i := 187) rfl rfl
theorem ch_pack {X : zX} {cc : ByteArray} {n9 : Nat} {rm rmc : Room} (C : z_C X cc RL n9 rm) (hR : rmc.frames + 1 ≤ rm.frames ∧ 8 + (4 + 11) + rmc.locals ≤ rm.locals) : vx_CSW (z_R X) (z_s X) (z_a X) RL 210 (qL_pack).1 (qL_pack).2.1 (qL_pack).2.2.1 (qL_pack).2.2.2 [(0, 10, 13, 19)] (z_hs qL_pack [(0, 10, 13, 19)]) rmc rmc.cells rmc.slots 3 := z_cwH (q := qL_pack) C kh_pack kw905 kw906 kw0 (by decide +kernel) hR
abbrev qL_pour : zY := (yL_pour, cL_pour, 6, some .int)
theorem kh_pour : Cond.codeWith (qL_pour).1 (qL_pour).2.1 (qL_pour).2.2.1 (qL_pour).2.2.2 [(0, 13, 16, 19), (0, 13, 20, 21)] ∈ gw := gw_4 (i := 194) rfl rfl
theorem ch_pour {X : zX} {cc : ByteArray} {n9 : Nat} {rm rmc : Room} (C : z_C X cc RL n9 rm) (hR : rmc.frames + 1 ≤ rm.frames ∧ 8 + (6 + 11) + rmc.locals ≤ rm.locals) : vx_CSW (z_R X) (z_s X) (z_a X) RL 213 (qL_pour).1 (qL_pour).2.1 (qL_pour).2.2.1 (qL_pour).2.2.2 [(0, 13, 16, 19), (0, 13, 20, 21)] (z_hs qL_pour [(0, 13, 16, 19), (0, 13, 20, 21)]) rmc rmc.cells rmc.slots 5 := z_cwH (q := qL_pour) C kh_pour kw912 kw913 kw0 (by decide +kernel) hR
abbrev qL_lay : zY := (yL_lay, cL_lay, 5, some .int)
theorem kh_lay : Cond.codeWith (qL_lay).1 (qL_lay).2.1 (qL_lay).2.2.1 (qL_lay).2.2.2 [(0, 11, 14, 19), (0, 11, 18, 21)] ∈ gw := gw_4 (i := 209) rfl rfl
theorem ch_lay {X : zX} {cc : ByteArray} {n9 : Nat} {rm rmc : Room} (C : z_C X cc RL n9 rm) (hR : rmc.frames + 1 ≤ rm.frames ∧ 8 + (5 + 11) + rmc.locals ≤ rm.locals) : vx_CSW (z_R X) (z_s X) (z_a X) RL 216 (qL_lay).1 (qL_lay).2.1 (qL_lay).2.2.1 (qL_lay).2.2.2 [(0, 11, 14, 19), (0, 11, 18, 21)] (z_hs qL_lay [(0, 11, 14, 19), (0, 11, 18, 21)]) rmc rmc.cells rmc.slots 4 := z_cwH (q := qL_lay) C kh_lay kw927 kw928 kw0 (by decide +kernel) hR
abbrev qL_reach : zY := (yL_reach, cL_reach, 6, some .int)
theorem kh_reach : Cond.codeWith (qL_reach).1 (qL_reach).2.1 (qL_reach).2.2.1 (qL_reach).2.2.2 [(0, 13, 16, 19), (0, 13, 20, 21)] ∈ gw := gw_4 (i := 219) rfl rfl
theorem ch_reach {X : zX} {cc : ByteArray} {n9 : Nat} {rm rmc : Room} (C : z_C X cc RL n9 rm) (hR : rmc.frames + 1 ≤ rm.frames ∧ 8 + (6 + 11) + rmc.locals ≤ rm.locals) : vx_CSW (z_R X) (z_s X) (z_a X) RL 219 (qL_reach).1 (qL_reach).2.1 (qL_reach).2.2.1 (qL_reach).2.2.2 [(0, 13, 16, 19), (0, 13, 20, 21)] (z_hs qL_reach [(0, 13, 16, 19), (0, 13, 20, 21)]) rmc rmc.cells rmc.slots 5 := z_cwH (q := qL_reach) C kh_reach kw937 kw938 kw0 (by decide +kernel) hR
abbrev qL_get : zY := (yL_get, cL_get, 4, some .int)
theorem kh_get : Cond.codeWith (qL_get).1 (qL_get).2.1 (qL_get).2.2.1 (qL_get).2.2.2 [(0, 10, 13, 19)] ∈ gw := gw_4 (i := 226) rfl rfl
theorem ch_get {X : zX} {cc : ByteArray} {n9 : Nat} {rm rmc : Room} (C : z_C X cc RL n9 rm) (hR : rmc.frames + 1 ≤ rm.frames ∧ 8 + (4 + 11) + rmc.locals ≤ rm.locals) : vx_CSW (z_R X) (z_s X) (z_a X) RL 222 (qL_get).1 (qL_get).2.1 (qL_get).2.2.1 (qL_get).2.2.2 [(0, 10, 13, 19)] (z_hs qL_get [(0, 10, 13, 19)]) rmc rmc.cells rmc.slots 3 := z_cwH (q := qL_get) C kh_get kw944 kw945 kw0 (by decide +kernel) hR
abbrev qL_drain : zY := (yL_drain, cL_drain, 5, some .int)
theorem kh_drain : Cond.codeWith (qL_drain).1 (qL_drain).2.1 (qL_drain).2.2.1 (qL_drain).2.2.2 [(0, 11, 14, 19), (0, 11, 18, 21)] ∈ gw := gw_4 (i := 233) rfl rfl
theorem ch_drain {X : zX} {cc : ByteArray} {n9 : Nat} {rm rmc : Room} (C : z_C X cc RL n9 rm) (hR : rmc.frames + 1 ≤ rm.frames ∧ 8 + (5 + 11) + rmc.locals ≤ rm.locals) : vx_CSW (z_R X) (z_s X) (z_a X) RL 225 (qL_drain).1 (qL_drain).2.1 (qL_drain).2.2.1 (qL_drain).2.2.2 [(0, 11, 14, 19), (0, 11, 18, 21)] (z_hs qL_drain [(0, 11, 14, 19), (0, 11, 18, 21)]) rmc rmc.cells rmc.slots 4 := z_cwH (q := qL_drain) C kh_drain kw951 kw952 kw0 (by decide +kernel) hR
abbrev qL_pop : zY := (yL_pop, cL_pop, 4, some .int)
theorem kh_pop : Cond.codeWith (qL_pop).1 (qL_pop).2.1 (qL_pop).2.2.1 (qL_pop).2.2.2 [(0, 10, 13, 19)] ∈ gw := gw_5 (i := 0) rfl rfl
theorem ch_pop {X : zX} {cc : ByteArray} {n9 : Nat} {rm rmc : Room} (C : z_C X cc RL n9 rm) (hR : rmc.frames + 1 ≤ rm.frames ∧ 8 + (4 + 11) + rmc.locals ≤ rm.locals) : vx_CSW (z_R X) (z_s X) (z_a X) RL 232 (qL_pop).1 (qL_pop).2.1 (qL_pop).2.2.1 (qL_pop).2.2.2 [(0, 10, 13, 19)] (z_hs qL_pop [(0, 10, 13, 19)]) rmc rmc.cells rmc.slots 3 := z_cwH (q := qL_pop) C kh_pop kw958 kw959 kw0 (by decide +kernel) hR
abbrev qL_ofPane : zY := (yL_ofPane, cL_ofPane, 5, some .int)
theorem kh_ofPane : Cond.codeWith (qL_ofPane).1 (qL_ofPane).2.1 (qL_ofPane).2.2.1 (qL_ofPane).2.2.2 [(0, 11, 14, 19), (0, 11, 18, 21)] ∈ gw := gw_5 (i := 7) rfl rfl
theorem ch_ofPane {X : zX} {cc : ByteArray} {n9 : Nat} {rm rmc : Room} (C : z_C X cc RL n9 rm) (hR : rmc.frames + 1 ≤ rm.frames ∧ 8 + (5 + 11) + rmc.locals ≤ rm.locals) : vx_CSW (z_R X) (z_s X) (z_a X) RL 235 (qL_ofPane).1 (qL_ofPane).2.1 (qL_ofPane).2.2.1 (qL_ofPane).2.2.2 [(0, 11, 14, 19), (0, 11, 18, 21)] (z_hs qL_ofPane [(0, 11, 14, 19), (0, 11, 18, 21)]) rmc rmc.cells rmc.slots 4 := z_cwH (q := qL_ofPane) C kh_ofPane kw965 kw966 kw0 (by decide +kernel) hR
abbrev qL_at : zY := (yL_at, cL_at, 5, some .int)
theorem kh_at : Cond.codeWith (qL_at).1 (qL_at).2.1 (qL_at).2.2.1 (qL_at).2.2.2 [(0, 11, 14, 19)] ∈ gw := gw_5 (i := 14) rfl rfl
theorem ch_at {X : zX} {cc : ByteArray} {n9 : Nat} {rm rmc : Room} (C : z_C X cc RL n9 rm) (hR : rmc.frames + 1 ≤ rm.frames ∧ 8 + (5 + 11) + rmc.locals ≤ rm.locals) : vx_CSW (z_R X) (z_s X) (z_a X) RL 238 (qL_at).1 (qL_at).2.1 (qL_at).2.2.1 (qL_at).2.2.2 [(0, 11, 14, 19)] (z_hs qL_at [(0, 11, 14, 19)]) rmc rmc.cells rmc.slots 4 := z_cwH (q := qL_at) C kh_at kw972 kw973 kw0 (by decide +kernel) hR
abbrev qL_peek : zY := (yL_peek, cL_peek, 4, some .int)
theorem kh_peek : Cond.codeWith (qL_peek).1 (qL_peek).2.1 (qL_peek).2.2.1 (qL_peek).2.2.2 [(0, 10, 13, 19)] ∈ gw := gw_5 (i := 21) rfl rfl
theorem ch_peek {X : zX} {cc : ByteArray} {n9 : Nat} {rm rmc : Room} (C : z_C X cc RL n9 rm) (hR : rmc.frames + 1 ≤ rm.frames ∧ 8 + (4 + 11) + rmc.locals ≤ rm.locals) : vx_CSW (z_R X) (z_s X) (z_a X) RL 241 (qL_peek).1 (qL_peek).2.1 (qL_peek).2.2.1 (qL_peek).2.2.2 [(0, 10, 13, 19)] (z_hs qL_peek [(0, 10, 13, 19)]) rmc rmc.cells rmc.slots 3 := z_cwH (q := qL_peek) C kh_peek kw979 kw980 kw0 (by decide +kernel) hR
abbrev qL_total : zY := (yL_total, cL_total, 4, some .int)
theorem kh_total : Cond.codeWith (qL_total).1 (qL_total).2.1 (qL_total).2.2.1 (qL_total).2.2.2 [(0, 9, 12, 19)] ∈ gw := gw_5 (i := 28) rfl rfl
theorem ch_total {X : zX} {cc : ByteArray} {n9 : Nat} {rm rmc : Room} (C : z_C X cc RL n9 rm) (hR : rmc.frames + 1 ≤ rm.frames ∧ 8 + (4 + 11) + rmc.locals ≤ rm.locals) : vx_CSW (z_R X) (z_s X) (z_a X) RL 244 (qL_total).1 (qL_total).2.1 (qL_total).2.2.1 (qL_total).2.2.2 [(0, 9, 12, 19)] (z_hs qL_total [(0, 9, 12, 19)]) rmc rmc.cells rmc.slots 3 := z_cwH (q := qL_total) C kh_total kw986 kw987 kw0 (by decide +kernel) hR
abbrev qL_text : zY := (yL_text, cL_text, 4, some .int)
theorem kh_text : Cond.codeWith (qL_text).1 (qL_text).2.1 (qL_text).2.2.1 (qL_text).2.2.2 [(0, 9, 12, 19)] ∈ gw := gw_5 (i := 35) rfl rfl
theorem ch_text {X : zX} {cc : ByteArray} {n9 : Nat} {rm rmc : Room} (C : z_C X cc RL n9 rm) (hR : rmc.frames + 1 ≤ rm.frames ∧ 8 + (4 + 11) + rmc.locals ≤ rm.locals) : vx_CSW (z_R X) (z_s X) (z_a X) RL 247 (qL_text).1 (qL_text).2.1 (qL_text).2.2.1 (qL_text).2.2.2 [(0, 9, 12, 19)] (z_hs qL_text [(0, 9, 12, 19)]) rmc rmc.cells rmc.slots 3 := z_cwH (q := qL_text) C kh_text kw993 kw994 kw0 (by decide +kernel) hR
abbrev qL_whole : zY := (yL_whole, cL_whole, 4, some .int)
theorem kh_whole : Cond.codeWith (qL_whole).1 (qL_whole).2.1 (qL_whole).2.2.1 (qL_whole).2.2.2 [(0, 9, 12, 19)] ∈ gw := gw_5 (i := 42) rfl rfl
theorem ch_whole {X : zX} {cc : ByteArray} {n9 : Nat} {rm rmc : Room} (C : z_C X cc RL n9 rm) (hR : rmc.frames + 1 ≤ rm.frames ∧ 8 + (4 + 11) + rmc.locals ≤ rm.locals) : vx_CSW (z_R X) (z_s X) (z_a X) RL 250 (qL_whole).1 (qL_whole).2.1 (qL_whole).2.2.1 (qL_whole).2.2.2 [(0, 9, 12, 19)] (z_hs qL_whole [(0, 9, 12, 19)]) rmc rmc.cells rmc.slots 3 := z_cwH (q := qL_whole) C kh_whole kw1000 kw1001 kw0 (by decide +kernel) hR
abbrev qL_isKin : zY := (yL_isKin, cL_isKin, 5, some .int)
theorem kh_isKin : Cond.codeWith (qL_isKin).1 (qL_isKin).2.1 (qL_isKin).2.2.1 (qL_isKin).2.2.2 [(0, 11, 14, 19)] ∈ gw := gw_5 (i := 49) rfl rfl
theorem ch_isKin {X : zX} {cc : ByteArray} {n9 : Nat} {rm rmc : Room} (C : z_C X cc RL n9 rm) (hR : rmc.frames + 1 ≤ rm.frames ∧ 8 + (5 + 11) + rmc.locals ≤ rm.locals) : vx_CSW (z_R X) (z_s X) (z_a X) RL 258 (qL_isKin).1 (qL_isKin).2.1 (qL_isKin).2.2.1 (qL_isKin).2.2.2 [(0, 11, 14, 19)] (z_hs qL_isKin [(0, 11, 14, 19)]) rmc rmc.cells rmc.slots 4 := z_cwH (q := qL_isKin) C kh_isKin kw1007 kw1008 kw0 (by decide +kernel) hR
abbrev qL_sees : zY := (yL_sees, cL_sees, 6, some .int)
theorem kh_sees : Cond.codeWith (qL_sees).1 (qL_sees).2.1 (qL_sees).2.2.1 (qL_sees).2.2.2 [(0, 13, 16, 19)] ∈ gw := gw_5 (i := 56) rfl rfl
theorem ch_sees {X : zX} {cc : ByteArray} {n9 : Nat} {rm rmc : Room} (C : z_C X cc RL n9 rm) (hR : rmc.frames + 1 ≤ rm.frames ∧ 8 + (6 + 11) + rmc.locals ≤ rm.locals) : vx_CSW (z_R X) (z_s X) (z_a X) RL 261 (qL_sees).1 (qL_sees).2.1 (qL_sees).2.2.1 (qL_sees).2.2.2 [(0, 13, 16, 19)] (z_hs qL_sees [(0, 13, 16, 19)]) rmc rmc.cells rmc.slots 5 := z_cwH (q := qL_sees) C kh_sees kw1014 kw1015 kw0 (by decide +kernel) hR
abbrev qL_would : zY := (yL_would, cL_would, 5, some .int)
theorem kh_would : Cond.codeWith (qL_would).1 (qL_would).2.1 (qL_would).2.2.1 (qL_would).2.2.2 [(0, 11, 14, 19), (0, 11, 18, 21)] ∈ gw := gw_5 (i := 63) rfl rfl
theorem ch_would {X : zX} {cc : ByteArray} {n9 : Nat} {rm rmc : Room} (C : z_C X cc RL n9 rm) (hR : rmc.frames + 1 ≤ rm.frames ∧ 8 + (5 + 11) + rmc.locals ≤ rm.locals) : vx_CSW (z_R X) (z_s X) (z_a X) RL 264 (qL_would).1 (qL_would).2.1 (qL_would).2.2.1 (qL_would).2.2.2 [(0, 11, 14, 19), (0, 11, 18, 21)] (z_hs qL_would [(0, 11, 14, 19), (0, 11, 18, 21)]) rmc rmc.cells rmc.slots 4 := z_cwH (q := qL_would) C kh_would kw1021 kw1022 kw0 (by decide +kernel) hR
abbrev qL_house : zY := (yL_house, cL_house, 4, some .int)
theorem kh_house : Cond.codeWith (qL_house).1 (qL_house).2.1 (qL_house).2.2.1 (qL_house).2.2.2 [(0, 10, 13, 21)] ∈ gw := gw_5 (i := 70) rfl rfl
theorem ch_house {X : zX} {cc : ByteArray} {n9 : Nat} {rm rmc : Room} (C : z_C X cc RL n9 rm) (hR : rmc.frames + 1 ≤ rm.frames ∧ 8 + (4 + 11) + rmc.locals ≤ rm.locals) : vx_CSW (z_R X) (z_s X) (z_a X) RL 267 (qL_house).1 (qL_house).2.1 (qL_house).2.2.1 (qL_house).2.2.2 [(0, 10, 13, 21)] (z_hs qL_house [(0, 10, 13, 21)]) rmc rmc.cells rmc.slots 3 := z_cwH (q := qL_house) C kh_house kw1028 kw1029 kw0 (by decide +kernel) hR
theorem dL_wrap_0 : decode cL_wrap 0 = .ok (.aload 4, 2) := by decide +kernel
theorem dL_wrap_2 : decode cL_wrap 2 = .ok (.aload_n 0, 1) := by decide +kernel
theorem dL_wrap_3 : decode cL_wrap 3 = .ok (.iload_n 1, 1) := by decide +kernel
theorem dL_wrap_4 : decode cL_wrap 4 = .ok (.iload_n 2, 1) := by decide +kernel
theorem dL_wrap_5 : decode cL_wrap 5 = .ok (.iload_n 3, 1) := by decide +kernel
theorem dL_wrap_6 : decode cL_wrap 6 = .ok (.invokevirtual 7, 3) := by decide +kernel
theorem dL_wrap_9 : decode cL_wrap 9 = .ok (.i2l, 1) := by decide +kernel
theorem dL_wrap_10 : decode cL_wrap 10 = .ok (.putfield 13, 3) := by decide +kernel
theorem dL_wrap_13 : decode cL_wrap 13 = .ok (.goto 11, 3) := by decide +kernel
theorem dL_wrap_16 : decode cL_wrap 16 = .ok (.astore 5, 2) := by decide +kernel
theorem dL_wrap_18 : decode cL_wrap 18 = .ok (.iconst 1, 1) := by decide +kernel
theorem dL_wrap_19 : decode cL_wrap 19 = .ok (.ireturn, 1) := by decide +kernel
theorem dL_wrap_20 : decode cL_wrap 20 = .ok (.astore 5, 2) := by decide +kernel
theorem dL_wrap_22 : decode cL_wrap 22 = .ok (.iconst 2, 1) := by decide +kernel
theorem dL_wrap_23 : decode cL_wrap 23 = .ok (.ireturn, 1) := by decide +kernel
theorem dL_wrap_24 : decode cL_wrap 24 = .ok (.iconst 0, 1) := by decide +kernel
theorem dL_wrap_25 : decode cL_wrap 25 = .ok (.ireturn, 1) := by decide +kernel
theorem dL_fresh_0 : decode cL_fresh 0 = .ok (.aload_n 3, 1) := by decide +kernel
theorem dL_fresh_1 : decode cL_fresh 1 = .ok (.aload_n 0, 1) := by decide +kernel
theorem dL_fresh_2 : decode cL_fresh 2 = .ok (.iload_n 1, 1) := by decide +kernel
theorem dL_fresh_3 : decode cL_fresh 3 = .ok (.iload_n 2, 1) := by decide +kernel
theorem dL_fresh_4 : decode cL_fresh 4 = .ok (.invokevirtual 23, 3) := by decide +kernel
theorem dL_fresh_7 : decode cL_fresh 7 = .ok (.i2l, 1) := by decide +kernel
theorem dL_fresh_8 : decode cL_fresh 8 = .ok (.putfield 13, 3) := by decide +kernel
theorem dL_fresh_11 : decode cL_fresh 11 = .ok (.goto 11, 3) := by decide +kernel
theorem dL_fresh_14 : decode cL_fresh 14 = .ok (.astore 4, 2) := by decide +kernel
theorem dL_fresh_16 : decode cL_fresh 16 = .ok (.iconst 1, 1) := by decide +kernel
theorem dL_fresh_17 : decode cL_fresh 17 = .ok (.ireturn, 1) := by decide +kernel
theorem dL_fresh_18 : decode cL_fresh 18 = .ok (.astore 4, 2) := by decide +kernel
theorem dL_fresh_20 : decode cL_fresh 20 = .ok (.iconst 2, 1) := by decide +kernel
theorem dL_fresh_21 : decode cL_fresh 21 = .ok (.ireturn, 1) := by decide +kernel
theorem dL_fresh_22 : decode cL_fresh 22 = .ok (.iconst 0, 1) := by decide +kernel
theorem dL_fresh_23 : decode cL_fresh 23 = .ok (.ireturn, 1) := by decide +kernel
theorem dL_twin_0 : decode cL_twin 0 = .ok (.aload_n 3, 1) := by decide +kernel
theorem dL_twin_1 : decode cL_twin 1 = .ok (.aload_n 0, 1) := by decide +kernel
theorem dL_twin_2 : decode cL_twin 2 = .ok (.iload_n 1, 1) := by decide +kernel
theorem dL_twin_3 : decode cL_twin 3 = .ok (.iload_n 2, 1) := by decide +kernel
theorem dL_twin_4 : decode cL_twin 4 = .ok (.invokevirtual 27, 3) := by decide +kernel
theorem dL_twin_7 : decode cL_twin 7 = .ok (.i2l, 1) := by decide +kernel
theorem dL_twin_8 : decode cL_twin 8 = .ok (.putfield 13, 3) := by decide +kernel
theorem dL_twin_11 : decode cL_twin 11 = .ok (.goto 7, 3) := by decide +kernel
theorem dL_twin_14 : decode cL_twin 14 = .ok (.astore 4, 2) := by decide +kernel
theorem dL_twin_16 : decode cL_twin 16 = .ok (.iconst 1, 1) := by decide +kernel
theorem dL_twin_17 : decode cL_twin 17 = .ok (.ireturn, 1) := by decide +kernel
theorem dL_twin_18 : decode cL_twin 18 = .ok (.iconst 0, 1) := by decide +kernel
theorem dL_twin_19 : decode cL_twin 19 = .ok (.ireturn, 1) := by decide +kernel
theorem dL_rest_0 : decode cL_rest 0 = .ok (.aload_n 3, 1) := by decide +kernel
theorem dL_rest_1 : decode cL_rest 1 = .ok (.aload_n 0, 1) := by decide +kernel
theorem dL_rest_2 : decode cL_rest 2 = .ok (.iload_n 1, 1) := by decide +kernel
theorem dL_rest_3 : decode cL_rest 3 = .ok (.iload_n 2, 1) := by decide +kernel
theorem dL_rest_4 : decode cL_rest 4 = .ok (.invokevirtual 30, 3) := by decide +kernel
theorem dL_rest_7 : decode cL_rest 7 = .ok (.i2l, 1) := by decide +kernel
theorem dL_rest_8 : decode cL_rest 8 = .ok (.putfield 13, 3) := by decide +kernel
theorem dL_rest_11 : decode cL_rest 11 = .ok (.goto 7, 3) := by decide +kernel
theorem dL_rest_14 : decode cL_rest 14 = .ok (.astore 4, 2) := by decide +kernel
theorem dL_rest_16 : decode cL_rest 16 = .ok (.iconst 1, 1) := by decide +kernel
theorem dL_rest_17 : decode cL_rest 17 = .ok (.ireturn, 1) := by decide +kernel
theorem dL_rest_18 : decode cL_rest 18 = .ok (.iconst 0, 1) := by decide +kernel
theorem dL_rest_19 : decode cL_rest 19 = .ok (.ireturn, 1) := by decide +kernel
theorem dL_part_0 : decode cL_part 0 = .ok (.aload 5, 2) := by decide +kernel
theorem dL_part_2 : decode cL_part 2 = .ok (.aload_n 0, 1) := by decide +kernel
theorem dL_part_3 : decode cL_part 3 = .ok (.iload_n 1, 1) := by decide +kernel
theorem dL_part_4 : decode cL_part 4 = .ok (.iload_n 2, 1) := by decide +kernel
theorem dL_part_5 : decode cL_part 5 = .ok (.iload_n 3, 1) := by decide +kernel
theorem dL_part_6 : decode cL_part 6 = .ok (.iload 4, 2) := by decide +kernel
theorem dL_part_8 : decode cL_part 8 = .ok (.invokevirtual 33, 3) := by decide +kernel
theorem dL_part_11 : decode cL_part 11 = .ok (.i2l, 1) := by decide +kernel
theorem dL_part_12 : decode cL_part 12 = .ok (.putfield 13, 3) := by decide +kernel
theorem dL_part_15 : decode cL_part 15 = .ok (.goto 7, 3) := by decide +kernel
theorem dL_part_18 : decode cL_part 18 = .ok (.astore 6, 2) := by decide +kernel
theorem dL_part_20 : decode cL_part 20 = .ok (.iconst 1, 1) := by decide +kernel
theorem dL_part_21 : decode cL_part 21 = .ok (.ireturn, 1) := by decide +kernel
theorem dL_part_22 : decode cL_part 22 = .ok (.iconst 0, 1) := by decide +kernel
theorem dL_part_23 : decode cL_part 23 = .ok (.ireturn, 1) := by decide +kernel
theorem dL_reader_0 : decode cL_reader 0 = .ok (.aload_n 3, 1) := by decide +kernel
theorem dL_reader_1 : decode cL_reader 1 = .ok (.aload_n 0, 1) := by decide +kernel
theorem dL_reader_2 : decode cL_reader 2 = .ok (.iload_n 1, 1) := by decide +kernel
theorem dL_reader_3 : decode cL_reader 3 = .ok (.iload_n 2, 1) := by decide +kernel
theorem dL_reader_4 : decode cL_reader 4 = .ok (.invokevirtual 37, 3) := by decide +kernel
theorem dL_reader_7 : decode cL_reader 7 = .ok (.i2l, 1) := by decide +kernel
theorem dL_reader_8 : decode cL_reader 8 = .ok (.putfield 13, 3) := by decide +kernel
theorem dL_reader_11 : decode cL_reader 11 = .ok (.goto 7, 3) := by decide +kernel
theorem dL_reader_14 : decode cL_reader 14 = .ok (.astore 4, 2) := by decide +kernel
theorem dL_reader_16 : decode cL_reader 16 = .ok (.iconst 1, 1) := by decide +kernel
theorem dL_reader_17 : decode cL_reader 17 = .ok (.ireturn, 1) := by decide +kernel
theorem dL_reader_18 : decode cL_reader 18 = .ok (.iconst 0, 1) := by decide +kernel
theorem dL_reader_19 : decode cL_reader 19 = .ok (.ireturn, 1) := by decide +kernel
theorem dL_exchange_0 : decode cL_exchange 0 = .ok (.aload_n 3, 1) := by decide +kernel
theorem dL_exchange_1 : decode cL_exchange 1 = .ok (.aload_n 0, 1) := by decide +kernel
theorem dL_exchange_2 : decode cL_exchange 2 = .ok (.iload_n 1, 1) := by decide +kernel
theorem dL_exchange_3 : decode cL_exchange 3 = .ok (.iload_n 2, 1) := by decide +kernel
theorem dL_exchange_4 : decode cL_exchange 4 = .ok (.invokevirtual 40, 3) := by decide +kernel
theorem dL_exchange_7 : decode cL_exchange 7 = .ok (.i2l, 1) := by decide +kernel
theorem dL_exchange_8 : decode cL_exchange 8 = .ok (.putfield 13, 3) := by decide +kernel
theorem dL_exchange_11 : decode cL_exchange 11 = .ok (.goto 7, 3) := by decide +kernel
theorem dL_exchange_14 : decode cL_exchange 14 = .ok (.astore 4, 2) := by decide +kernel
theorem dL_exchange_16 : decode cL_exchange 16 = .ok (.iconst 1, 1) := by decide +kernel
theorem dL_exchange_17 : decode cL_exchange 17 = .ok (.ireturn, 1) := by decide +kernel
theorem dL_exchange_18 : decode cL_exchange 18 = .ok (.iconst 0, 1) := by decide +kernel
theorem dL_exchange_19 : decode cL_exchange 19 = .ok (.ireturn, 1) := by decide +kernel
theorem dL_go_0 : decode cL_go 0 = .ok (.aload_n 3, 1) := by decide +kernel
theorem dL_go_1 : decode cL_go 1 = .ok (.aload_n 0, 1) := by decide +kernel
theorem dL_go_2 : decode cL_go 2 = .ok (.iload_n 1, 1) := by decide +kernel
theorem dL_go_3 : decode cL_go 3 = .ok (.iload_n 2, 1) := by decide +kernel
theorem dL_go_4 : decode cL_go 4 = .ok (.invokevirtual 43, 3) := by decide +kernel
theorem dL_go_7 : decode cL_go 7 = .ok (.i2l, 1) := by decide +kernel
theorem dL_go_8 : decode cL_go 8 = .ok (.putfield 13, 3) := by decide +kernel
theorem dL_go_11 : decode cL_go 11 = .ok (.goto 7, 3) := by decide +kernel
theorem dL_go_14 : decode cL_go 14 = .ok (.astore 4, 2) := by decide +kernel
theorem dL_go_16 : decode cL_go 16 = .ok (.iconst 1, 1) := by decide +kernel
theorem dL_go_17 : decode cL_go 17 = .ok (.ireturn, 1) := by decide +kernel
theorem dL_go_18 : decode cL_go 18 = .ok (.iconst 0, 1) := by decide +kernel
theorem dL_go_19 : decode cL_go 19 = .ok (.ireturn, 1) := by decide +kernel
theorem dL_move_0 : decode cL_move 0 = .ok (.aload_n 3, 1) := by decide +kernel
theorem dL_move_1 : decode cL_move 1 = .ok (.aload_n 0, 1) := by decide +kernel
theorem dL_move_2 : decode cL_move 2 = .ok (.iload_n 1, 1) := by decide +kernel
theorem dL_move_3 : decode cL_move 3 = .ok (.iload_n 2, 1) := by decide +kernel
theorem dL_move_4 : decode cL_move 4 = .ok (.invokevirtual 46, 3) := by decide +kernel
theorem dL_move_7 : decode cL_move 7 = .ok (.i2l, 1) := by decide +kernel
theorem dL_move_8 : decode cL_move 8 = .ok (.putfield 13, 3) := by decide +kernel
theorem dL_move_11 : decode cL_move 11 = .ok (.goto 11, 3) := by decide +kernel
theorem dL_move_14 : decode cL_move 14 = .ok (.astore 4, 2) := by decide +kernel
theorem dL_move_16 : decode cL_move 16 = .ok (.iconst 1, 1) := by decide +kernel
theorem dL_move_17 : decode cL_move 17 = .ok (.ireturn, 1) := by decide +kernel
theorem dL_move_18 : decode cL_move 18 = .ok (.astore 4, 2) := by decide +kernel
theorem dL_move_20 : decode cL_move 20 = .ok (.iconst 2, 1) := by decide +kernel
theorem dL_move_21 : decode cL_move 21 = .ok (.ireturn, 1) := by decide +kernel
theorem dL_move_22 : decode cL_move 22 = .ok (.iconst 0, 1) := by decide +kernel
theorem dL_move_23 : decode cL_move 23 = .ok (.ireturn, 1) := by decide +kernel
theorem dL_end_0 : decode cL_end 0 = .ok (.aload_n 3, 1) := by decide +kernel
theorem dL_end_1 : decode cL_end 1 = .ok (.aload_n 0, 1) := by decide +kernel
theorem dL_end_2 : decode cL_end 2 = .ok (.iload_n 1, 1) := by decide +kernel
theorem dL_end_3 : decode cL_end 3 = .ok (.iload_n 2, 1) := by decide +kernel
theorem dL_end_4 : decode cL_end 4 = .ok (.invokevirtual 49, 3) := by decide +kernel
theorem dL_end_7 : decode cL_end 7 = .ok (.i2l, 1) := by decide +kernel
theorem dL_end_8 : decode cL_end 8 = .ok (.putfield 13, 3) := by decide +kernel
theorem dL_end_11 : decode cL_end 11 = .ok (.goto 7, 3) := by decide +kernel
theorem dL_end_14 : decode cL_end 14 = .ok (.astore 4, 2) := by decide +kernel
theorem dL_end_16 : decode cL_end 16 = .ok (.iconst 1, 1) := by decide +kernel
theorem dL_end_17 : decode cL_end 17 = .ok (.ireturn, 1) := by decide +kernel
theorem dL_end_18 : decode cL_end 18 = .ok (.iconst 0, 1) := by decide +kernel
theorem dL_end_19 : decode cL_end 19 = .ok (.ireturn, 1) := by decide +kernel
theorem dL_stretch_0 : decode cL_stretch 0 = .ok (.aload_n 3, 1) := by decide +kernel
theorem dL_stretch_1 : decode cL_stretch 1 = .ok (.aload_n 0, 1) := by decide +kernel
theorem dL_stretch_2 : decode cL_stretch 2 = .ok (.iload_n 1, 1) := by decide +kernel
theorem dL_stretch_3 : decode cL_stretch 3 = .ok (.iload_n 2, 1) := by decide +kernel
theorem dL_stretch_4 : decode cL_stretch 4 = .ok (.invokevirtual 52, 3) := by decide +kernel
theorem dL_stretch_7 : decode cL_stretch 7 = .ok (.i2l, 1) := by decide +kernel
theorem dL_stretch_8 : decode cL_stretch 8 = .ok (.putfield 13, 3) := by decide +kernel
theorem dL_stretch_11 : decode cL_stretch 11 = .ok (.goto 11, 3) := by decide +kernel
theorem dL_stretch_14 : decode cL_stretch 14 = .ok (.astore 4, 2) := by decide +kernel
theorem dL_stretch_16 : decode cL_stretch 16 = .ok (.iconst 1, 1) := by decide +kernel
theorem dL_stretch_17 : decode cL_stretch 17 = .ok (.ireturn, 1) := by decide +kernel
theorem dL_stretch_18 : decode cL_stretch 18 = .ok (.astore 4, 2) := by decide +kernel
theorem dL_stretch_20 : decode cL_stretch 20 = .ok (.iconst 2, 1) := by decide +kernel
theorem dL_stretch_21 : decode cL_stretch 21 = .ok (.ireturn, 1) := by decide +kernel
theorem dL_stretch_22 : decode cL_stretch 22 = .ok (.iconst 0, 1) := by decide +kernel
theorem dL_stretch_23 : decode cL_stretch 23 = .ok (.ireturn, 1) := by decide +kernel
theorem dL_mark_0 : decode cL_mark 0 = .ok (.aload_n 2, 1) := by decide +kernel
theorem dL_mark_1 : decode cL_mark 1 = .ok (.aload_n 0, 1) := by decide +kernel
theorem dL_mark_2 : decode cL_mark 2 = .ok (.iload_n 1, 1) := by decide +kernel
theorem dL_mark_3 : decode cL_mark 3 = .ok (.invokevirtual 55, 3) := by decide +kernel
theorem dL_mark_6 : decode cL_mark 6 = .ok (.i2l, 1) := by decide +kernel
theorem dL_mark_7 : decode cL_mark 7 = .ok (.putfield 13, 3) := by decide +kernel
theorem dL_mark_10 : decode cL_mark 10 = .ok (.goto 6, 3) := by decide +kernel
theorem dL_mark_13 : decode cL_mark 13 = .ok (.astore_n 3, 1) := by decide +kernel
theorem dL_mark_14 : decode cL_mark 14 = .ok (.iconst 1, 1) := by decide +kernel
theorem dL_mark_15 : decode cL_mark 15 = .ok (.ireturn, 1) := by decide +kernel
theorem dL_mark_16 : decode cL_mark 16 = .ok (.iconst 0, 1) := by decide +kernel
theorem dL_mark_17 : decode cL_mark 17 = .ok (.ireturn, 1) := by decide +kernel
theorem dL_back_0 : decode cL_back 0 = .ok (.aload_n 2, 1) := by decide +kernel
theorem dL_back_1 : decode cL_back 1 = .ok (.aload_n 0, 1) := by decide +kernel
theorem dL_back_2 : decode cL_back 2 = .ok (.iload_n 1, 1) := by decide +kernel
theorem dL_back_3 : decode cL_back 3 = .ok (.invokevirtual 59, 3) := by decide +kernel
theorem dL_back_6 : decode cL_back 6 = .ok (.i2l, 1) := by decide +kernel
theorem dL_back_7 : decode cL_back 7 = .ok (.putfield 13, 3) := by decide +kernel
theorem dL_back_10 : decode cL_back 10 = .ok (.goto 6, 3) := by decide +kernel
theorem dL_back_13 : decode cL_back 13 = .ok (.astore_n 3, 1) := by decide +kernel
theorem dL_back_14 : decode cL_back 14 = .ok (.iconst 1, 1) := by decide +kernel
theorem dL_back_15 : decode cL_back 15 = .ok (.ireturn, 1) := by decide +kernel
theorem dL_back_16 : decode cL_back 16 = .ok (.iconst 0, 1) := by decide +kernel
theorem dL_back_17 : decode cL_back 17 = .ok (.ireturn, 1) := by decide +kernel
theorem dL_clear_0 : decode cL_clear 0 = .ok (.aload_n 2, 1) := by decide +kernel
theorem dL_clear_1 : decode cL_clear 1 = .ok (.aload_n 0, 1) := by decide +kernel
theorem dL_clear_2 : decode cL_clear 2 = .ok (.iload_n 1, 1) := by decide +kernel
theorem dL_clear_3 : decode cL_clear 3 = .ok (.invokevirtual 62, 3) := by decide +kernel
theorem dL_clear_6 : decode cL_clear 6 = .ok (.i2l, 1) := by decide +kernel
theorem dL_clear_7 : decode cL_clear 7 = .ok (.putfield 13, 3) := by decide +kernel
theorem dL_clear_10 : decode cL_clear 10 = .ok (.goto 6, 3) := by decide +kernel
theorem dL_clear_13 : decode cL_clear 13 = .ok (.astore_n 3, 1) := by decide +kernel
theorem dL_clear_14 : decode cL_clear 14 = .ok (.iconst 1, 1) := by decide +kernel
theorem dL_clear_15 : decode cL_clear 15 = .ok (.ireturn, 1) := by decide +kernel
theorem dL_clear_16 : decode cL_clear 16 = .ok (.iconst 0, 1) := by decide +kernel
theorem dL_clear_17 : decode cL_clear 17 = .ok (.ireturn, 1) := by decide +kernel
theorem dL_flip_0 : decode cL_flip 0 = .ok (.aload_n 2, 1) := by decide +kernel
theorem dL_flip_1 : decode cL_flip 1 = .ok (.aload_n 0, 1) := by decide +kernel
theorem dL_flip_2 : decode cL_flip 2 = .ok (.iload_n 1, 1) := by decide +kernel
theorem dL_flip_3 : decode cL_flip 3 = .ok (.invokevirtual 65, 3) := by decide +kernel
theorem dL_flip_6 : decode cL_flip 6 = .ok (.i2l, 1) := by decide +kernel
theorem dL_flip_7 : decode cL_flip 7 = .ok (.putfield 13, 3) := by decide +kernel
theorem dL_flip_10 : decode cL_flip 10 = .ok (.goto 6, 3) := by decide +kernel
theorem dL_flip_13 : decode cL_flip 13 = .ok (.astore_n 3, 1) := by decide +kernel
theorem dL_flip_14 : decode cL_flip 14 = .ok (.iconst 1, 1) := by decide +kernel
theorem dL_flip_15 : decode cL_flip 15 = .ok (.ireturn, 1) := by decide +kernel
theorem dL_flip_16 : decode cL_flip 16 = .ok (.iconst 0, 1) := by decide +kernel
theorem dL_flip_17 : decode cL_flip 17 = .ok (.ireturn, 1) := by decide +kernel
theorem dL_rewind_0 : decode cL_rewind 0 = .ok (.aload_n 2, 1) := by decide +kernel
theorem dL_rewind_1 : decode cL_rewind 1 = .ok (.aload_n 0, 1) := by decide +kernel
theorem dL_rewind_2 : decode cL_rewind 2 = .ok (.iload_n 1, 1) := by decide +kernel
theorem dL_rewind_3 : decode cL_rewind 3 = .ok (.invokevirtual 68, 3) := by decide +kernel
theorem dL_rewind_6 : decode cL_rewind 6 = .ok (.i2l, 1) := by decide +kernel
theorem dL_rewind_7 : decode cL_rewind 7 = .ok (.putfield 13, 3) := by decide +kernel
theorem dL_rewind_10 : decode cL_rewind 10 = .ok (.goto 6, 3) := by decide +kernel
theorem dL_rewind_13 : decode cL_rewind 13 = .ok (.astore_n 3, 1) := by decide +kernel
theorem dL_rewind_14 : decode cL_rewind 14 = .ok (.iconst 1, 1) := by decide +kernel
theorem dL_rewind_15 : decode cL_rewind 15 = .ok (.ireturn, 1) := by decide +kernel
theorem dL_rewind_16 : decode cL_rewind 16 = .ok (.iconst 0, 1) := by decide +kernel
theorem dL_rewind_17 : decode cL_rewind 17 = .ok (.ireturn, 1) := by decide +kernel
theorem dL_put_0 : decode cL_put 0 = .ok (.aload_n 3, 1) := by decide +kernel
theorem dL_put_1 : decode cL_put 1 = .ok (.aload_n 0, 1) := by decide +kernel
theorem dL_put_2 : decode cL_put 2 = .ok (.iload_n 1, 1) := by decide +kernel
theorem dL_put_3 : decode cL_put 3 = .ok (.iload_n 2, 1) := by decide +kernel
theorem dL_put_4 : decode cL_put 4 = .ok (.invokevirtual 71, 3) := by decide +kernel
theorem dL_put_7 : decode cL_put 7 = .ok (.i2l, 1) := by decide +kernel
theorem dL_put_8 : decode cL_put 8 = .ok (.putfield 13, 3) := by decide +kernel
theorem dL_put_11 : decode cL_put 11 = .ok (.goto 11, 3) := by decide +kernel
theorem dL_put_14 : decode cL_put 14 = .ok (.astore 4, 2) := by decide +kernel
theorem dL_put_16 : decode cL_put 16 = .ok (.iconst 1, 1) := by decide +kernel
theorem dL_put_17 : decode cL_put 17 = .ok (.ireturn, 1) := by decide +kernel
theorem dL_put_18 : decode cL_put 18 = .ok (.astore 4, 2) := by decide +kernel
theorem dL_put_20 : decode cL_put 20 = .ok (.iconst 2, 1) := by decide +kernel
theorem dL_put_21 : decode cL_put 21 = .ok (.ireturn, 1) := by decide +kernel
theorem dL_put_22 : decode cL_put 22 = .ok (.iconst 0, 1) := by decide +kernel
theorem dL_put_23 : decode cL_put 23 = .ok (.ireturn, 1) := by decide +kernel
theorem dL_putAt_0 : decode cL_putAt 0 = .ok (.aload 4, 2) := by decide +kernel
theorem dL_putAt_2 : decode cL_putAt 2 = .ok (.aload_n 0, 1) := by decide +kernel
theorem dL_putAt_3 : decode cL_putAt 3 = .ok (.iload_n 1, 1) := by decide +kernel
theorem dL_putAt_4 : decode cL_putAt 4 = .ok (.iload_n 2, 1) := by decide +kernel
theorem dL_putAt_5 : decode cL_putAt 5 = .ok (.iload_n 3, 1) := by decide +kernel
theorem dL_putAt_6 : decode cL_putAt 6 = .ok (.invokevirtual 74, 3) := by decide +kernel
theorem dL_putAt_9 : decode cL_putAt 9 = .ok (.i2l, 1) := by decide +kernel
theorem dL_putAt_10 : decode cL_putAt 10 = .ok (.putfield 13, 3) := by decide +kernel
theorem dL_putAt_13 : decode cL_putAt 13 = .ok (.goto 11, 3) := by decide +kernel
theorem dL_putAt_16 : decode cL_putAt 16 = .ok (.astore 5, 2) := by decide +kernel
theorem dL_putAt_18 : decode cL_putAt 18 = .ok (.iconst 1, 1) := by decide +kernel
theorem dL_putAt_19 : decode cL_putAt 19 = .ok (.ireturn, 1) := by decide +kernel
theorem dL_putAt_20 : decode cL_putAt 20 = .ok (.astore 5, 2) := by decide +kernel
theorem dL_putAt_22 : decode cL_putAt 22 = .ok (.iconst 2, 1) := by decide +kernel
theorem dL_putAt_23 : decode cL_putAt 23 = .ok (.ireturn, 1) := by decide +kernel
theorem dL_putAt_24 : decode cL_putAt 24 = .ok (.iconst 0, 1) := by decide +kernel
theorem dL_putAt_25 : decode cL_putAt 25 = .ok (.ireturn, 1) := by decide +kernel
theorem dL_bring_0 : decode cL_bring 0 = .ok (.aload 5, 2) := by decide +kernel
theorem dL_bring_2 : decode cL_bring 2 = .ok (.aload_n 0, 1) := by decide +kernel
theorem dL_bring_3 : decode cL_bring 3 = .ok (.iload_n 1, 1) := by decide +kernel
theorem dL_bring_4 : decode cL_bring 4 = .ok (.iload_n 2, 1) := by decide +kernel
theorem dL_bring_5 : decode cL_bring 5 = .ok (.iload_n 3, 1) := by decide +kernel
theorem dL_bring_6 : decode cL_bring 6 = .ok (.iload 4, 2) := by decide +kernel
theorem dL_bring_8 : decode cL_bring 8 = .ok (.invokevirtual 77, 3) := by decide +kernel
theorem dL_bring_11 : decode cL_bring 11 = .ok (.i2l, 1) := by decide +kernel
theorem dL_bring_12 : decode cL_bring 12 = .ok (.putfield 13, 3) := by decide +kernel
theorem dL_bring_15 : decode cL_bring 15 = .ok (.goto 7, 3) := by decide +kernel
theorem dL_bring_18 : decode cL_bring 18 = .ok (.astore 6, 2) := by decide +kernel
theorem dL_bring_20 : decode cL_bring 20 = .ok (.iconst 1, 1) := by decide +kernel
theorem dL_bring_21 : decode cL_bring 21 = .ok (.ireturn, 1) := by decide +kernel
theorem dL_bring_22 : decode cL_bring 22 = .ok (.iconst 0, 1) := by decide +kernel
theorem dL_bring_23 : decode cL_bring 23 = .ok (.ireturn, 1) := by decide +kernel
theorem dL_fill_0 : decode cL_fill 0 = .ok (.aload 5, 2) := by decide +kernel
theorem dL_fill_2 : decode cL_fill 2 = .ok (.aload_n 0, 1) := by decide +kernel
theorem dL_fill_3 : decode cL_fill 3 = .ok (.iload_n 1, 1) := by decide +kernel
theorem dL_fill_4 : decode cL_fill 4 = .ok (.iload_n 2, 1) := by decide +kernel
theorem dL_fill_5 : decode cL_fill 5 = .ok (.iload_n 3, 1) := by decide +kernel
theorem dL_fill_6 : decode cL_fill 6 = .ok (.iload 4, 2) := by decide +kernel
theorem dL_fill_8 : decode cL_fill 8 = .ok (.invokevirtual 80, 3) := by decide +kernel
theorem dL_fill_11 : decode cL_fill 11 = .ok (.i2l, 1) := by decide +kernel
theorem dL_fill_12 : decode cL_fill 12 = .ok (.putfield 13, 3) := by decide +kernel
theorem dL_fill_15 : decode cL_fill 15 = .ok (.goto 11, 3) := by decide +kernel
theorem dL_fill_18 : decode cL_fill 18 = .ok (.astore 6, 2) := by decide +kernel
theorem dL_fill_20 : decode cL_fill 20 = .ok (.iconst 1, 1) := by decide +kernel
theorem dL_fill_21 : decode cL_fill 21 = .ok (.ireturn, 1) := by decide +kernel
theorem dL_fill_22 : decode cL_fill 22 = .ok (.astore 6, 2) := by decide +kernel
theorem dL_fill_24 : decode cL_fill 24 = .ok (.iconst 2, 1) := by decide +kernel
theorem dL_fill_25 : decode cL_fill 25 = .ok (.ireturn, 1) := by decide +kernel
theorem dL_fill_26 : decode cL_fill 26 = .ok (.iconst 0, 1) := by decide +kernel
theorem dL_fill_27 : decode cL_fill 27 = .ok (.ireturn, 1) := by decide +kernel
theorem dL_pack_0 : decode cL_pack 0 = .ok (.aload_n 2, 1) := by decide +kernel
theorem dL_pack_1 : decode cL_pack 1 = .ok (.aload_n 0, 1) := by decide +kernel
theorem dL_pack_2 : decode cL_pack 2 = .ok (.iload_n 1, 1) := by decide +kernel
theorem dL_pack_3 : decode cL_pack 3 = .ok (.invokevirtual 83, 3) := by decide +kernel
theorem dL_pack_6 : decode cL_pack 6 = .ok (.i2l, 1) := by decide +kernel
theorem dL_pack_7 : decode cL_pack 7 = .ok (.putfield 13, 3) := by decide +kernel
theorem dL_pack_10 : decode cL_pack 10 = .ok (.goto 6, 3) := by decide +kernel
theorem dL_pack_13 : decode cL_pack 13 = .ok (.astore_n 3, 1) := by decide +kernel
theorem dL_pack_14 : decode cL_pack 14 = .ok (.iconst 1, 1) := by decide +kernel
theorem dL_pack_15 : decode cL_pack 15 = .ok (.ireturn, 1) := by decide +kernel
theorem dL_pack_16 : decode cL_pack 16 = .ok (.iconst 0, 1) := by decide +kernel
theorem dL_pack_17 : decode cL_pack 17 = .ok (.ireturn, 1) := by decide +kernel
theorem dL_pour_0 : decode cL_pour 0 = .ok (.aload 4, 2) := by decide +kernel
theorem dL_pour_2 : decode cL_pour 2 = .ok (.aload_n 0, 1) := by decide +kernel
theorem dL_pour_3 : decode cL_pour 3 = .ok (.iload_n 1, 1) := by decide +kernel
theorem dL_pour_4 : decode cL_pour 4 = .ok (.iload_n 2, 1) := by decide +kernel
theorem dL_pour_5 : decode cL_pour 5 = .ok (.iload_n 3, 1) := by decide +kernel
theorem dL_pour_6 : decode cL_pour 6 = .ok (.invokevirtual 86, 3) := by decide +kernel
theorem dL_pour_9 : decode cL_pour 9 = .ok (.i2l, 1) := by decide +kernel
theorem dL_pour_10 : decode cL_pour 10 = .ok (.putfield 13, 3) := by decide +kernel
theorem dL_pour_13 : decode cL_pour 13 = .ok (.goto 11, 3) := by decide +kernel
theorem dL_pour_16 : decode cL_pour 16 = .ok (.astore 5, 2) := by decide +kernel
theorem dL_pour_18 : decode cL_pour 18 = .ok (.iconst 1, 1) := by decide +kernel
theorem dL_pour_19 : decode cL_pour 19 = .ok (.ireturn, 1) := by decide +kernel
theorem dL_pour_20 : decode cL_pour 20 = .ok (.astore 5, 2) := by decide +kernel
theorem dL_pour_22 : decode cL_pour 22 = .ok (.iconst 2, 1) := by decide +kernel
theorem dL_pour_23 : decode cL_pour 23 = .ok (.ireturn, 1) := by decide +kernel
theorem dL_pour_24 : decode cL_pour 24 = .ok (.iconst 0, 1) := by decide +kernel
theorem dL_pour_25 : decode cL_pour 25 = .ok (.ireturn, 1) := by decide +kernel
theorem dL_lay_0 : decode cL_lay 0 = .ok (.aload_n 3, 1) := by decide +kernel
theorem dL_lay_1 : decode cL_lay 1 = .ok (.aload_n 0, 1) := by decide +kernel
theorem dL_lay_2 : decode cL_lay 2 = .ok (.iload_n 1, 1) := by decide +kernel
theorem dL_lay_3 : decode cL_lay 3 = .ok (.iload_n 2, 1) := by decide +kernel
theorem dL_lay_4 : decode cL_lay 4 = .ok (.invokevirtual 89, 3) := by decide +kernel
theorem dL_lay_7 : decode cL_lay 7 = .ok (.i2l, 1) := by decide +kernel
theorem dL_lay_8 : decode cL_lay 8 = .ok (.putfield 13, 3) := by decide +kernel
theorem dL_lay_11 : decode cL_lay 11 = .ok (.goto 11, 3) := by decide +kernel
theorem dL_lay_14 : decode cL_lay 14 = .ok (.astore 4, 2) := by decide +kernel
theorem dL_lay_16 : decode cL_lay 16 = .ok (.iconst 1, 1) := by decide +kernel
theorem dL_lay_17 : decode cL_lay 17 = .ok (.ireturn, 1) := by decide +kernel
theorem dL_lay_18 : decode cL_lay 18 = .ok (.astore 4, 2) := by decide +kernel
theorem dL_lay_20 : decode cL_lay 20 = .ok (.iconst 2, 1) := by decide +kernel
theorem dL_lay_21 : decode cL_lay 21 = .ok (.ireturn, 1) := by decide +kernel
theorem dL_lay_22 : decode cL_lay 22 = .ok (.iconst 0, 1) := by decide +kernel
theorem dL_lay_23 : decode cL_lay 23 = .ok (.ireturn, 1) := by decide +kernel
theorem dL_reach_0 : decode cL_reach 0 = .ok (.aload 4, 2) := by decide +kernel
theorem dL_reach_2 : decode cL_reach 2 = .ok (.aload_n 0, 1) := by decide +kernel
theorem dL_reach_3 : decode cL_reach 3 = .ok (.iload_n 1, 1) := by decide +kernel
theorem dL_reach_4 : decode cL_reach 4 = .ok (.iload_n 2, 1) := by decide +kernel
theorem dL_reach_5 : decode cL_reach 5 = .ok (.iload_n 3, 1) := by decide +kernel
theorem dL_reach_6 : decode cL_reach 6 = .ok (.invokevirtual 92, 3) := by decide +kernel
theorem dL_reach_9 : decode cL_reach 9 = .ok (.i2l, 1) := by decide +kernel
theorem dL_reach_10 : decode cL_reach 10 = .ok (.putfield 13, 3) := by decide +kernel
theorem dL_reach_13 : decode cL_reach 13 = .ok (.goto 11, 3) := by decide +kernel
theorem dL_reach_16 : decode cL_reach 16 = .ok (.astore 5, 2) := by decide +kernel
theorem dL_reach_18 : decode cL_reach 18 = .ok (.iconst 1, 1) := by decide +kernel
theorem dL_reach_19 : decode cL_reach 19 = .ok (.ireturn, 1) := by decide +kernel
theorem dL_reach_20 : decode cL_reach 20 = .ok (.astore 5, 2) := by decide +kernel
theorem dL_reach_22 : decode cL_reach 22 = .ok (.iconst 2, 1) := by decide +kernel
theorem dL_reach_23 : decode cL_reach 23 = .ok (.ireturn, 1) := by decide +kernel
theorem dL_reach_24 : decode cL_reach 24 = .ok (.iconst 0, 1) := by decide +kernel
theorem dL_reach_25 : decode cL_reach 25 = .ok (.ireturn, 1) := by decide +kernel
theorem dL_get_0 : decode cL_get 0 = .ok (.aload_n 2, 1) := by decide +kernel
theorem dL_get_1 : decode cL_get 1 = .ok (.aload_n 0, 1) := by decide +kernel
theorem dL_get_2 : decode cL_get 2 = .ok (.iload_n 1, 1) := by decide +kernel
theorem dL_get_3 : decode cL_get 3 = .ok (.invokevirtual 95, 3) := by decide +kernel
theorem dL_get_6 : decode cL_get 6 = .ok (.i2l, 1) := by decide +kernel
theorem dL_get_7 : decode cL_get 7 = .ok (.putfield 13, 3) := by decide +kernel
theorem dL_get_10 : decode cL_get 10 = .ok (.goto 6, 3) := by decide +kernel
theorem dL_get_13 : decode cL_get 13 = .ok (.astore_n 3, 1) := by decide +kernel
theorem dL_get_14 : decode cL_get 14 = .ok (.iconst 1, 1) := by decide +kernel
theorem dL_get_15 : decode cL_get 15 = .ok (.ireturn, 1) := by decide +kernel
theorem dL_get_16 : decode cL_get 16 = .ok (.iconst 0, 1) := by decide +kernel
theorem dL_get_17 : decode cL_get 17 = .ok (.ireturn, 1) := by decide +kernel
theorem dL_drain_0 : decode cL_drain 0 = .ok (.aload_n 3, 1) := by decide +kernel
theorem dL_drain_1 : decode cL_drain 1 = .ok (.aload_n 0, 1) := by decide +kernel
theorem dL_drain_2 : decode cL_drain 2 = .ok (.iload_n 1, 1) := by decide +kernel
theorem dL_drain_3 : decode cL_drain 3 = .ok (.iload_n 2, 1) := by decide +kernel
theorem dL_drain_4 : decode cL_drain 4 = .ok (.invokevirtual 98, 3) := by decide +kernel
theorem dL_drain_7 : decode cL_drain 7 = .ok (.i2l, 1) := by decide +kernel
theorem dL_drain_8 : decode cL_drain 8 = .ok (.putfield 13, 3) := by decide +kernel
theorem dL_drain_11 : decode cL_drain 11 = .ok (.goto 11, 3) := by decide +kernel
theorem dL_drain_14 : decode cL_drain 14 = .ok (.astore 4, 2) := by decide +kernel
theorem dL_drain_16 : decode cL_drain 16 = .ok (.iconst 1, 1) := by decide +kernel
theorem dL_drain_17 : decode cL_drain 17 = .ok (.ireturn, 1) := by decide +kernel
theorem dL_drain_18 : decode cL_drain 18 = .ok (.astore 4, 2) := by decide +kernel
theorem dL_drain_20 : decode cL_drain 20 = .ok (.iconst 2, 1) := by decide +kernel
theorem dL_drain_21 : decode cL_drain 21 = .ok (.ireturn, 1) := by decide +kernel
theorem dL_drain_22 : decode cL_drain 22 = .ok (.iconst 0, 1) := by decide +kernel
theorem dL_drain_23 : decode cL_drain 23 = .ok (.ireturn, 1) := by decide +kernel
theorem dL_pop_0 : decode cL_pop 0 = .ok (.aload_n 2, 1) := by decide +kernel
theorem dL_pop_1 : decode cL_pop 1 = .ok (.aload_n 0, 1) := by decide +kernel
theorem dL_pop_2 : decode cL_pop 2 = .ok (.iload_n 1, 1) := by decide +kernel
theorem dL_pop_3 : decode cL_pop 3 = .ok (.invokevirtual 101, 3) := by decide +kernel
theorem dL_pop_6 : decode cL_pop 6 = .ok (.i2l, 1) := by decide +kernel
theorem dL_pop_7 : decode cL_pop 7 = .ok (.putfield 13, 3) := by decide +kernel
theorem dL_pop_10 : decode cL_pop 10 = .ok (.goto 6, 3) := by decide +kernel
theorem dL_pop_13 : decode cL_pop 13 = .ok (.astore_n 3, 1) := by decide +kernel
theorem dL_pop_14 : decode cL_pop 14 = .ok (.iconst 1, 1) := by decide +kernel
theorem dL_pop_15 : decode cL_pop 15 = .ok (.ireturn, 1) := by decide +kernel
theorem dL_pop_16 : decode cL_pop 16 = .ok (.iconst 0, 1) := by decide +kernel
theorem dL_pop_17 : decode cL_pop 17 = .ok (.ireturn, 1) := by decide +kernel
theorem dL_ofPane_0 : decode cL_ofPane 0 = .ok (.aload_n 3, 1) := by decide +kernel
theorem dL_ofPane_1 : decode cL_ofPane 1 = .ok (.aload_n 0, 1) := by decide +kernel
theorem dL_ofPane_2 : decode cL_ofPane 2 = .ok (.iload_n 1, 1) := by decide +kernel
theorem dL_ofPane_3 : decode cL_ofPane 3 = .ok (.iload_n 2, 1) := by decide +kernel
theorem dL_ofPane_4 : decode cL_ofPane 4 = .ok (.invokevirtual 104, 3) := by decide +kernel
theorem dL_ofPane_7 : decode cL_ofPane 7 = .ok (.i2l, 1) := by decide +kernel
theorem dL_ofPane_8 : decode cL_ofPane 8 = .ok (.putfield 13, 3) := by decide +kernel
theorem dL_ofPane_11 : decode cL_ofPane 11 = .ok (.goto 11, 3) := by decide +kernel
theorem dL_ofPane_14 : decode cL_ofPane 14 = .ok (.astore 4, 2) := by decide +kernel
theorem dL_ofPane_16 : decode cL_ofPane 16 = .ok (.iconst 1, 1) := by decide +kernel
theorem dL_ofPane_17 : decode cL_ofPane 17 = .ok (.ireturn, 1) := by decide +kernel
theorem dL_ofPane_18 : decode cL_ofPane 18 = .ok (.astore 4, 2) := by decide +kernel
theorem dL_ofPane_20 : decode cL_ofPane 20 = .ok (.iconst 2, 1) := by decide +kernel
theorem dL_ofPane_21 : decode cL_ofPane 21 = .ok (.ireturn, 1) := by decide +kernel
theorem dL_ofPane_22 : decode cL_ofPane 22 = .ok (.iconst 0, 1) := by decide +kernel
theorem dL_ofPane_23 : decode cL_ofPane 23 = .ok (.ireturn, 1) := by decide +kernel
theorem dL_at_0 : decode cL_at 0 = .ok (.aload_n 3, 1) := by decide +kernel
theorem dL_at_1 : decode cL_at 1 = .ok (.aload_n 0, 1) := by decide +kernel
theorem dL_at_2 : decode cL_at 2 = .ok (.iload_n 1, 1) := by decide +kernel
theorem dL_at_3 : decode cL_at 3 = .ok (.iload_n 2, 1) := by decide +kernel
theorem dL_at_4 : decode cL_at 4 = .ok (.invokevirtual 107, 3) := by decide +kernel
theorem dL_at_7 : decode cL_at 7 = .ok (.i2l, 1) := by decide +kernel
theorem dL_at_8 : decode cL_at 8 = .ok (.putfield 13, 3) := by decide +kernel
theorem dL_at_11 : decode cL_at 11 = .ok (.goto 7, 3) := by decide +kernel
theorem dL_at_14 : decode cL_at 14 = .ok (.astore 4, 2) := by decide +kernel
theorem dL_at_16 : decode cL_at 16 = .ok (.iconst 1, 1) := by decide +kernel
theorem dL_at_17 : decode cL_at 17 = .ok (.ireturn, 1) := by decide +kernel
theorem dL_at_18 : decode cL_at 18 = .ok (.iconst 0, 1) := by decide +kernel
theorem dL_at_19 : decode cL_at 19 = .ok (.ireturn, 1) := by decide +kernel
theorem dL_peek_0 : decode cL_peek 0 = .ok (.aload_n 2, 1) := by decide +kernel
theorem dL_peek_1 : decode cL_peek 1 = .ok (.aload_n 0, 1) := by decide +kernel
theorem dL_peek_2 : decode cL_peek 2 = .ok (.iload_n 1, 1) := by decide +kernel
theorem dL_peek_3 : decode cL_peek 3 = .ok (.invokevirtual 110, 3) := by decide +kernel
theorem dL_peek_6 : decode cL_peek 6 = .ok (.i2l, 1) := by decide +kernel
theorem dL_peek_7 : decode cL_peek 7 = .ok (.putfield 13, 3) := by decide +kernel
theorem dL_peek_10 : decode cL_peek 10 = .ok (.goto 6, 3) := by decide +kernel
theorem dL_peek_13 : decode cL_peek 13 = .ok (.astore_n 3, 1) := by decide +kernel
theorem dL_peek_14 : decode cL_peek 14 = .ok (.iconst 1, 1) := by decide +kernel
theorem dL_peek_15 : decode cL_peek 15 = .ok (.ireturn, 1) := by decide +kernel
theorem dL_peek_16 : decode cL_peek 16 = .ok (.iconst 0, 1) := by decide +kernel
theorem dL_peek_17 : decode cL_peek 17 = .ok (.ireturn, 1) := by decide +kernel
theorem dL_total_0 : decode cL_total 0 = .ok (.aload_n 2, 1) := by decide +kernel
theorem dL_total_1 : decode cL_total 1 = .ok (.aload_n 0, 1) := by decide +kernel
theorem dL_total_2 : decode cL_total 2 = .ok (.iload_n 1, 1) := by decide +kernel
theorem dL_total_3 : decode cL_total 3 = .ok (.invokevirtual 113, 3) := by decide +kernel
theorem dL_total_6 : decode cL_total 6 = .ok (.putfield 117, 3) := by decide +kernel
theorem dL_total_9 : decode cL_total 9 = .ok (.goto 6, 3) := by decide +kernel
theorem dL_total_12 : decode cL_total 12 = .ok (.astore_n 3, 1) := by decide +kernel
theorem dL_total_13 : decode cL_total 13 = .ok (.iconst 1, 1) := by decide +kernel
theorem dL_total_14 : decode cL_total 14 = .ok (.ireturn, 1) := by decide +kernel
theorem dL_total_15 : decode cL_total 15 = .ok (.iconst 0, 1) := by decide +kernel
theorem dL_total_16 : decode cL_total 16 = .ok (.ireturn, 1) := by decide +kernel
theorem dL_text_0 : decode cL_text 0 = .ok (.aload_n 2, 1) := by decide +kernel
theorem dL_text_1 : decode cL_text 1 = .ok (.aload_n 0, 1) := by decide +kernel
theorem dL_text_2 : decode cL_text 2 = .ok (.iload_n 1, 1) := by decide +kernel
theorem dL_text_3 : decode cL_text 3 = .ok (.invokevirtual 121, 3) := by decide +kernel
theorem dL_text_6 : decode cL_text 6 = .ok (.putfield 117, 3) := by decide +kernel
theorem dL_text_9 : decode cL_text 9 = .ok (.goto 6, 3) := by decide +kernel
theorem dL_text_12 : decode cL_text 12 = .ok (.astore_n 3, 1) := by decide +kernel
theorem dL_text_13 : decode cL_text 13 = .ok (.iconst 1, 1) := by decide +kernel
theorem dL_text_14 : decode cL_text 14 = .ok (.ireturn, 1) := by decide +kernel
theorem dL_text_15 : decode cL_text 15 = .ok (.iconst 0, 1) := by decide +kernel
theorem dL_text_16 : decode cL_text 16 = .ok (.ireturn, 1) := by decide +kernel
theorem dL_whole_0 : decode cL_whole 0 = .ok (.aload_n 2, 1) := by decide +kernel
theorem dL_whole_1 : decode cL_whole 1 = .ok (.aload_n 0, 1) := by decide +kernel
theorem dL_whole_2 : decode cL_whole 2 = .ok (.iload_n 1, 1) := by decide +kernel
theorem dL_whole_3 : decode cL_whole 3 = .ok (.invokevirtual 124, 3) := by decide +kernel
theorem dL_whole_6 : decode cL_whole 6 = .ok (.putfield 117, 3) := by decide +kernel
theorem dL_whole_9 : decode cL_whole 9 = .ok (.goto 6, 3) := by decide +kernel
theorem dL_whole_12 : decode cL_whole 12 = .ok (.astore_n 3, 1) := by decide +kernel
theorem dL_whole_13 : decode cL_whole 13 = .ok (.iconst 1, 1) := by decide +kernel
theorem dL_whole_14 : decode cL_whole 14 = .ok (.ireturn, 1) := by decide +kernel
theorem dL_whole_15 : decode cL_whole 15 = .ok (.iconst 0, 1) := by decide +kernel
theorem dL_whole_16 : decode cL_whole 16 = .ok (.ireturn, 1) := by decide +kernel
theorem dL_isKin_0 : decode cL_isKin 0 = .ok (.aload_n 3, 1) := by decide +kernel
theorem dL_isKin_1 : decode cL_isKin 1 = .ok (.aload_n 0, 1) := by decide +kernel
theorem dL_isKin_2 : decode cL_isKin 2 = .ok (.iload_n 1, 1) := by decide +kernel
theorem dL_isKin_3 : decode cL_isKin 3 = .ok (.iload_n 2, 1) := by decide +kernel
theorem dL_isKin_4 : decode cL_isKin 4 = .ok (.invokevirtual 127, 3) := by decide +kernel
theorem dL_isKin_7 : decode cL_isKin 7 = .ok (.i2l, 1) := by decide +kernel
theorem dL_isKin_8 : decode cL_isKin 8 = .ok (.putfield 13, 3) := by decide +kernel
theorem dL_isKin_11 : decode cL_isKin 11 = .ok (.goto 7, 3) := by decide +kernel
theorem dL_isKin_14 : decode cL_isKin 14 = .ok (.astore 4, 2) := by decide +kernel
theorem dL_isKin_16 : decode cL_isKin 16 = .ok (.iconst 1, 1) := by decide +kernel
theorem dL_isKin_17 : decode cL_isKin 17 = .ok (.ireturn, 1) := by decide +kernel
theorem dL_isKin_18 : decode cL_isKin 18 = .ok (.iconst 0, 1) := by decide +kernel
theorem dL_isKin_19 : decode cL_isKin 19 = .ok (.ireturn, 1) := by decide +kernel
theorem dL_sees_0 : decode cL_sees 0 = .ok (.aload 4, 2) := by decide +kernel
theorem dL_sees_2 : decode cL_sees 2 = .ok (.aload_n 0, 1) := by decide +kernel
theorem dL_sees_3 : decode cL_sees 3 = .ok (.iload_n 1, 1) := by decide +kernel
theorem dL_sees_4 : decode cL_sees 4 = .ok (.iload_n 2, 1) := by decide +kernel
theorem dL_sees_5 : decode cL_sees 5 = .ok (.iload_n 3, 1) := by decide +kernel
theorem dL_sees_6 : decode cL_sees 6 = .ok (.invokevirtual 130, 3) := by decide +kernel
theorem dL_sees_9 : decode cL_sees 9 = .ok (.i2l, 1) := by decide +kernel
theorem dL_sees_10 : decode cL_sees 10 = .ok (.putfield 13, 3) := by decide +kernel
theorem dL_sees_13 : decode cL_sees 13 = .ok (.goto 7, 3) := by decide +kernel
theorem dL_sees_16 : decode cL_sees 16 = .ok (.astore 5, 2) := by decide +kernel
theorem dL_sees_18 : decode cL_sees 18 = .ok (.iconst 1, 1) := by decide +kernel
theorem dL_sees_19 : decode cL_sees 19 = .ok (.ireturn, 1) := by decide +kernel
theorem dL_sees_20 : decode cL_sees 20 = .ok (.iconst 0, 1) := by decide +kernel
theorem dL_sees_21 : decode cL_sees 21 = .ok (.ireturn, 1) := by decide +kernel
theorem dL_would_0 : decode cL_would 0 = .ok (.aload_n 3, 1) := by decide +kernel
theorem dL_would_1 : decode cL_would 1 = .ok (.aload_n 0, 1) := by decide +kernel
theorem dL_would_2 : decode cL_would 2 = .ok (.iload_n 1, 1) := by decide +kernel
theorem dL_would_3 : decode cL_would 3 = .ok (.iload_n 2, 1) := by decide +kernel
theorem dL_would_4 : decode cL_would 4 = .ok (.invokevirtual 133, 3) := by decide +kernel
theorem dL_would_7 : decode cL_would 7 = .ok (.i2l, 1) := by decide +kernel
theorem dL_would_8 : decode cL_would 8 = .ok (.putfield 13, 3) := by decide +kernel
theorem dL_would_11 : decode cL_would 11 = .ok (.goto 11, 3) := by decide +kernel
theorem dL_would_14 : decode cL_would 14 = .ok (.astore 4, 2) := by decide +kernel
theorem dL_would_16 : decode cL_would 16 = .ok (.iconst 1, 1) := by decide +kernel
theorem dL_would_17 : decode cL_would 17 = .ok (.ireturn, 1) := by decide +kernel
theorem dL_would_18 : decode cL_would 18 = .ok (.astore 4, 2) := by decide +kernel
theorem dL_would_20 : decode cL_would 20 = .ok (.iconst 2, 1) := by decide +kernel
theorem dL_would_21 : decode cL_would 21 = .ok (.ireturn, 1) := by decide +kernel
theorem dL_would_22 : decode cL_would 22 = .ok (.iconst 0, 1) := by decide +kernel
theorem dL_would_23 : decode cL_would 23 = .ok (.ireturn, 1) := by decide +kernel
theorem dL_house_0 : decode cL_house 0 = .ok (.aload_n 2, 1) := by decide +kernel
theorem dL_house_1 : decode cL_house 1 = .ok (.aload_n 0, 1) := by decide +kernel
theorem dL_house_2 : decode cL_house 2 = .ok (.iload_n 1, 1) := by decide +kernel
theorem dL_house_3 : decode cL_house 3 = .ok (.invokevirtual 136, 3) := by decide +kernel
theorem dL_house_6 : decode cL_house 6 = .ok (.i2l, 1) := by decide +kernel
theorem dL_house_7 : decode cL_house 7 = .ok (.putfield 13, 3) := by decide +kernel
theorem dL_house_10 : decode cL_house 10 = .ok (.goto 6, 3) := by decide +kernel
theorem dL_house_13 : decode cL_house 13 = .ok (.astore_n 3, 1) := by decide +kernel
theorem dL_house_14 : decode cL_house 14 = .ok (.iconst 1, 1) := by decide +kernel
theorem dL_house_15 : decode cL_house 15 = .ok (.ireturn, 1) := by decide +kernel
theorem dL_house_16 : decode cL_house 16 = .ok (.iconst 0, 1) := by decide +kernel
theorem dL_house_17 : decode cL_house 17 = .ok (.ireturn, 1) := by decide +kernel
set_option maxRecDepth 20000 in
theorem w_wrap (l : Launch) (h_st : l.stackTraces = false) {G : zG} {u : sS} {x pa sp ln rf sb ou t : Nat} {C9 B : zM} {on : Int64} {os : Option Nat} (hC : s_CI G x pa sp ln rf sb u C9) (hd : z_dj C9 B) (ho : B ou = some (cOu on os)) (hok : s_ok t u) (pane a2 a3 : Int32) : z_Hi l G qL_wrap [(0, 13, 16, 19), (0, 13, 20, 21)] (z_rm 13 8 48) [.ref x, .int pane, .int a2, .int a3, .ref ou] (z_un C9 B) (w_P G x pa sp ln rf sb ou B (z_lt (z_is pane 0 5) (t_and (z_is a2 0 16) (z_is a3 0 (16 - a2)))) u (s_wrap u pane.toNatClampNeg a2 a3)) := by
  obtain ⟨P, RA, VA, hC⟩ := hC
  refine z_Hi_of _ rfl rfl (Nat.le_of_ble_eq_true rfl) (fun X hl hG C T ret => ?_)
  subst hl; subst hG
  have C : z_C X cL_wrap RL 6 (z_rm 13 8 48) := C
  show z_W X (z_un C9 B) 0 0 0 [(0, .ref x), (1, .int pane), (2, .int a2), (3, .int a3), (4, .ref ou)] []
  refine z_aload C dL_wrap_0 4 rfl ?_
  refine z_aload_n C dL_wrap_2 rfl 0 rfl ?_
  refine z_iload_n C dL_wrap_3 rfl 1 rfl ?_
  refine z_iload_n C dL_wrap_4 rfl 2 rfl ?_
  refine z_iload_n C dL_wrap_5 rfl 3 rfl ?_
  refine z_callXVi (rest := [.ref ou]) (k' := 8) (n' := 48) C (z_Xi_fr hd (a_X3_wrap (z_l X) h_st hC hok pane a2 a3)) (cs_L_7 C ⟨Nat.le_of_ble_eq_true rfl, Nat.le_of_ble_eq_true rfl⟩) (z_un_l hC.1) rfl rfl rfl rfl (Nat.le_of_ble_eq_true rfl) rfl rfl (Nat.le_of_ble_eq_true rfl) (Nat.le_of_ble_eq_true rfl) dL_wrap_6 (fun E9 M9 hq => ?_) (fun x9 M9 hq => ?_)
  · obtain ⟨A9, ⟨hcx, hC9⟩, hd9, rfl⟩ := hq
    rcases hcx with ⟨hk9, rfl⟩ | ⟨hk9, rfl⟩
    · refine z_catch C T [] ⟨0, 13, 16, 19⟩ _ rfl (fun z hz => absurd hz List.not_mem_nil) rfl (by decide) kw693 (z_cI C) (fun qx => ?_)
      show z_W X (z_un A9 B) 8 48 16 [(0, .ref x), (1, .int pane), (2, .int a2), (3, .int a3), (4, .ref ou)] [.ref qx]
      refine z_astore (lv' := [(5, .ref qx), (0, .ref x), (1, .int pane), (2, .int a2), (3, .int a3), (4, .ref ou)]) C dL_wrap_16 (by decide) rfl ?_
      refine z_iconst C (v := 1) dL_wrap_18 (by decide) ?_
      refine ret dL_wrap_19 rfl ?_ (Nat.le_of_ble_eq_true rfl) (Nat.le_of_ble_eq_true rfl)
      exact w_th hC9 hd9 ho hk9 (by decide)
    · refine z_catch C T [⟨0, 13, 16, 19⟩] ⟨0, 13, 20, 21⟩ _ rfl (fun z hz => by rw [List.mem_singleton.mp hz]; exact Or.inr ⟨by decide, _, kw693, z_pasA C⟩) rfl (by decide) kw694 (z_cA C) (fun qx => ?_)
      show z_W X (z_un A9 B) 8 48 20 [(0, .ref x), (1, .int pane), (2, .int a2), (3, .int a3), (4, .ref ou)] [.ref qx]
      refine z_astore (lv' := [(5, .ref qx), (0, .ref x), (1, .int pane), (2, .int a2), (3, .int a3), (4, .ref ou)]) C dL_wrap_20 (by decide) rfl ?_
      refine z_iconst C (v := 2) dL_wrap_22 (by decide) ?_
      refine ret dL_wrap_23 rfl ?_ (Nat.le_of_ble_eq_true rfl) (Nat.le_of_ble_eq_true rfl)
      exact w_th hC9 hd9 ho hk9 (by decide)
  · obtain ⟨A9, ⟨hk9, hr9, hC9⟩, hd9, rfl⟩ := hq
    refine z_i2l C dL_wrap_9 ?_
    refine pf_L_13 C (z_un_r hd9 ho) dL_wrap_10 ?_
    refine z_goto C (tgt := 24) dL_wrap_13 (by decide) ?_
    refine z_iconst C (v := 0) dL_wrap_24 (by decide) ?_
    refine ret dL_wrap_25 rfl ?_ (Nat.le_of_ble_eq_true rfl) (Nat.le_of_ble_eq_true rfl)
    exact w_ok hC9 hd9 ho hk9 hr9
set_option maxRecDepth 20000 in
theorem w_fresh (l : Launch) (h_st : l.stackTraces = false) {G : zG} {u : sS} {x pa sp ln rf sb ou t : Nat} {C9 B : zM} {on : Int64} {os : Option Nat} (hC : s_CI G x pa sp ln rf sb u C9) (hd : z_dj C9 B) (ho : B ou = some (cOu on os)) (hok : s_ok t u) (pane a2 : Int32) : z_Hi l G qL_fresh [(0, 11, 14, 19), (0, 11, 18, 21)] (z_rm 13 8 48) [.ref x, .int pane, .int a2, .ref ou] (z_un C9 B) (w_P G x pa sp ln rf sb ou B (z_lt (z_is pane 0 5) (z_is a2 0 12)) u (s_fresh u pane.toNatClampNeg a2)) := by
  obtain ⟨P, RA, VA, hC⟩ := hC
  refine z_Hi_of _ rfl rfl (Nat.le_of_ble_eq_true rfl) (fun X hl hG C T ret => ?_)
  subst hl; subst hG
  have C : z_C X cL_fresh RL 5 (z_rm 13 8 48) := C
  show z_W X (z_un C9 B) 0 0 0 [(0, .ref x), (1, .int pane), (2, .int a2), (3, .ref ou)] []
  refine z_aload_n C dL_fresh_0 rfl 3 rfl ?_
  refine z_aload_n C dL_fresh_1 rfl 0 rfl ?_
  refine z_iload_n C dL_fresh_2 rfl 1 rfl ?_
  refine z_iload_n C dL_fresh_3 rfl 2 rfl ?_
  refine z_callXVi (rest := [.ref ou]) (k' := 8) (n' := 48) C (z_Xi_fr hd (a_X3_fresh (z_l X) h_st hC hok pane a2)) (cs_L_23 C ⟨Nat.le_of_ble_eq_true rfl, Nat.le_of_ble_eq_true rfl⟩) (z_un_l hC.1) rfl rfl rfl rfl (Nat.le_of_ble_eq_true rfl) rfl rfl (Nat.le_of_ble_eq_true rfl) (Nat.le_of_ble_eq_true rfl) dL_fresh_4 (fun E9 M9 hq => ?_) (fun x9 M9 hq => ?_)
  · obtain ⟨A9, ⟨hcx, hC9⟩, hd9, rfl⟩ := hq
    rcases hcx with ⟨hk9, rfl⟩ | ⟨hk9, rfl⟩
    · refine z_catch C T [] ⟨0, 11, 14, 19⟩ _ rfl (fun z hz => absurd hz List.not_mem_nil) rfl (by decide) kw693 (z_cI C) (fun qx => ?_)
      show z_W X (z_un A9 B) 8 48 14 [(0, .ref x), (1, .int pane), (2, .int a2), (3, .ref ou)] [.ref qx]
      refine z_astore (lv' := [(4, .ref qx), (0, .ref x), (1, .int pane), (2, .int a2), (3, .ref ou)]) C dL_fresh_14 (by decide) rfl ?_
      refine z_iconst C (v := 1) dL_fresh_16 (by decide) ?_
      refine ret dL_fresh_17 rfl ?_ (Nat.le_of_ble_eq_true rfl) (Nat.le_of_ble_eq_true rfl)
      exact w_th hC9 hd9 ho hk9 (by decide)
    · refine z_catch C T [⟨0, 11, 14, 19⟩] ⟨0, 11, 18, 21⟩ _ rfl (fun z hz => by rw [List.mem_singleton.mp hz]; exact Or.inr ⟨by decide, _, kw693, z_pasA C⟩) rfl (by decide) kw694 (z_cA C) (fun qx => ?_)
      show z_W X (z_un A9 B) 8 48 18 [(0, .ref x), (1, .int pane), (2, .int a2), (3, .ref ou)] [.ref qx]
      refine z_astore (lv' := [(4, .ref qx), (0, .ref x), (1, .int pane), (2, .int a2), (3, .ref ou)]) C dL_fresh_18 (by decide) rfl ?_
      refine z_iconst C (v := 2) dL_fresh_20 (by decide) ?_
      refine ret dL_fresh_21 rfl ?_ (Nat.le_of_ble_eq_true rfl) (Nat.le_of_ble_eq_true rfl)
      exact w_th hC9 hd9 ho hk9 (by decide)
  · obtain ⟨A9, ⟨hk9, hr9, hC9⟩, hd9, rfl⟩ := hq
    refine z_i2l C dL_fresh_7 ?_
    refine pf_L_13 C (z_un_r hd9 ho) dL_fresh_8 ?_
    refine z_goto C (tgt := 22) dL_fresh_11 (by decide) ?_
    refine z_iconst C (v := 0) dL_fresh_22 (by decide) ?_
    refine ret dL_fresh_23 rfl ?_ (Nat.le_of_ble_eq_true rfl) (Nat.le_of_ble_eq_true rfl)
    exact w_ok hC9 hd9 ho hk9 hr9
set_option maxRecDepth 20000 in
theorem w_twin (l : Launch) (h_st : l.stackTraces = false) {G : zG} {u : sS} {x pa sp ln rf sb ou t : Nat} {C9 B : zM} {on : Int64} {os : Option Nat} (hC : s_CI G x pa sp ln rf sb u C9) (hd : z_dj C9 B) (ho : B ou = some (cOu on os)) (hok : s_ok t u) (pane other : Int32) : z_Hi l G qL_twin [(0, 11, 14, 19)] (z_rm 13 8 48) [.ref x, .int pane, .int other, .ref ou] (z_un C9 B) (w_P G x pa sp ln rf sb ou B (z_lt (t_2 pane other) 1) u (s_twin u pane.toNatClampNeg other.toNatClampNeg)) := by
  obtain ⟨P, RA, VA, hC⟩ := hC
  refine z_Hi_of _ rfl rfl (Nat.le_of_ble_eq_true rfl) (fun X hl hG C T ret => ?_)
  subst hl; subst hG
  have C : z_C X cL_twin RL 5 (z_rm 13 8 48) := C
  show z_W X (z_un C9 B) 0 0 0 [(0, .ref x), (1, .int pane), (2, .int other), (3, .ref ou)] []
  refine z_aload_n C dL_twin_0 rfl 3 rfl ?_
  refine z_aload_n C dL_twin_1 rfl 0 rfl ?_
  refine z_iload_n C dL_twin_2 rfl 1 rfl ?_
  refine z_iload_n C dL_twin_3 rfl 2 rfl ?_
  refine z_callXVi (rest := [.ref ou]) (k' := 8) (n' := 48) C (z_Xi_fr hd (a_X3_twin (z_l X) h_st hC hok pane other)) (cs_L_27 C ⟨Nat.le_of_ble_eq_true rfl, Nat.le_of_ble_eq_true rfl⟩) (z_un_l hC.1) rfl rfl rfl rfl (Nat.le_of_ble_eq_true rfl) rfl rfl (Nat.le_of_ble_eq_true rfl) (Nat.le_of_ble_eq_true rfl) dL_twin_4 (fun E9 M9 hq => ?_) (fun x9 M9 hq => ?_)
  · obtain ⟨A9, ⟨hcx, hC9⟩, hd9, rfl⟩ := hq
    rcases hcx with ⟨hk9, rfl⟩ | ⟨hk9, rfl⟩
    · refine z_catch C T [] ⟨0, 11, 14, 19⟩ _ rfl (fun z hz => absurd hz List.not_mem_nil) rfl (by decide) kw693 (z_cI C) (fun qx => ?_)
      show z_W X (z_un A9 B) 8 48 14 [(0, .ref x), (1, .int pane), (2, .int other), (3, .ref ou)] [.ref qx]
      refine z_astore (lv' := [(4, .ref qx), (0, .ref x), (1, .int pane), (2, .int other), (3, .ref ou)]) C dL_twin_14 (by decide) rfl ?_
      refine z_iconst C (v := 1) dL_twin_16 (by decide) ?_
      refine ret dL_twin_17 rfl ?_ (Nat.le_of_ble_eq_true rfl) (Nat.le_of_ble_eq_true rfl)
      exact w_th hC9 hd9 ho hk9 (by decide)
    · exact absurd hk9 z_lt1
  · obtain ⟨A9, ⟨hk9, hr9, hC9⟩, hd9, rfl⟩ := hq
    refine z_i2l C dL_twin_7 ?_
    refine pf_L_13 C (z_un_r hd9 ho) dL_twin_8 ?_
    refine z_goto C (tgt := 18) dL_twin_11 (by decide) ?_
    refine z_iconst C (v := 0) dL_twin_18 (by decide) ?_
    refine ret dL_twin_19 rfl ?_ (Nat.le_of_ble_eq_true rfl) (Nat.le_of_ble_eq_true rfl)
    exact w_ok hC9 hd9 ho hk9 hr9
set_option maxRecDepth 20000 in
theorem w_rest (l : Launch) (h_st : l.stackTraces = false) {G : zG} {u : sS} {x pa sp ln rf sb ou t : Nat} {C9 B : zM} {on : Int64} {os : Option Nat} (hC : s_CI G x pa sp ln rf sb u C9) (hd : z_dj C9 B) (ho : B ou = some (cOu on os)) (hok : s_ok t u) (pane other : Int32) : z_Hi l G qL_rest [(0, 11, 14, 19)] (z_rm 13 8 48) [.ref x, .int pane, .int other, .ref ou] (z_un C9 B) (w_P G x pa sp ln rf sb ou B (z_lt (t_2 pane other) 1) u (s_rest u pane.toNatClampNeg other.toNatClampNeg)) := by
  obtain ⟨P, RA, VA, hC⟩ := hC
  refine z_Hi_of _ rfl rfl (Nat.le_of_ble_eq_true rfl) (fun X hl hG C T ret => ?_)
  subst hl; subst hG
  have C : z_C X cL_rest RL 5 (z_rm 13 8 48) := C
  show z_W X (z_un C9 B) 0 0 0 [(0, .ref x), (1, .int pane), (2, .int other), (3, .ref ou)] []
  refine z_aload_n C dL_rest_0 rfl 3 rfl ?_
  refine z_aload_n C dL_rest_1 rfl 0 rfl ?_
  refine z_iload_n C dL_rest_2 rfl 1 rfl ?_
  refine z_iload_n C dL_rest_3 rfl 2 rfl ?_
  refine z_callXVi (rest := [.ref ou]) (k' := 8) (n' := 48) C (z_Xi_fr hd (a_X3_rest (z_l X) h_st hC hok pane other)) (cs_L_30 C ⟨Nat.le_of_ble_eq_true rfl, Nat.le_of_ble_eq_true rfl⟩) (z_un_l hC.1) rfl rfl rfl rfl (Nat.le_of_ble_eq_true rfl) rfl rfl (Nat.le_of_ble_eq_true rfl) (Nat.le_of_ble_eq_true rfl) dL_rest_4 (fun E9 M9 hq => ?_) (fun x9 M9 hq => ?_)
  · obtain ⟨A9, ⟨hcx, hC9⟩, hd9, rfl⟩ := hq
    rcases hcx with ⟨hk9, rfl⟩ | ⟨hk9, rfl⟩
    · refine z_catch C T [] ⟨0, 11, 14, 19⟩ _ rfl (fun z hz => absurd hz List.not_mem_nil) rfl (by decide) kw693 (z_cI C) (fun qx => ?_)
      show z_W X (z_un A9 B) 8 48 14 [(0, .ref x), (1, .int pane), (2, .int other), (3, .ref ou)] [.ref qx]
      refine z_astore (lv' := [(4, .ref qx), (0, .ref x), (1, .int pane), (2, .int other), (3, .ref ou)]) C dL_rest_14 (by decide) rfl ?_
      refine z_iconst C (v := 1) dL_rest_16 (by decide) ?_
      refine ret dL_rest_17 rfl ?_ (Nat.le_of_ble_eq_true rfl) (Nat.le_of_ble_eq_true rfl)
      exact w_th hC9 hd9 ho hk9 (by decide)
    · exact absurd hk9 z_lt1
  · obtain ⟨A9, ⟨hk9, hr9, hC9⟩, hd9, rfl⟩ := hq
    refine z_i2l C dL_rest_7 ?_
    refine pf_L_13 C (z_un_r hd9 ho) dL_rest_8 ?_
    refine z_goto C (tgt := 18) dL_rest_11 (by decide) ?_
    refine z_iconst C (v := 0) dL_rest_18 (by decide) ?_
    refine ret dL_rest_19 rfl ?_ (Nat.le_of_ble_eq_true rfl) (Nat.le_of_ble_eq_true rfl)
    exact w_ok hC9 hd9 ho hk9 hr9
set_option maxRecDepth 20000 in
theorem w_part (l : Launch) (h_st : l.stackTraces = false) {G : zG} {u : sS} {x pa sp ln rf sb ou t : Nat} {C9 B : zM} {on : Int64} {os : Option Nat} (hC : s_CI G x pa sp ln rf sb u C9) (hd : z_dj C9 B) (ho : B ou = some (cOu on os)) (hok : s_ok t u) (pane other a3 a4 : Int32) : z_Hi l G qL_part [(0, 15, 18, 19)] (z_rm 13 8 48) [.ref x, .int pane, .int other, .int a3, .int a4, .ref ou] (z_un C9 B) (w_P G x pa sp ln rf sb ou B (z_lt (t_2 pane other) 1) u (s_part u pane.toNatClampNeg other.toNatClampNeg a3 a4)) := by
  obtain ⟨P, RA, VA, hC⟩ := hC
  refine z_Hi_of _ rfl rfl (Nat.le_of_ble_eq_true rfl) (fun X hl hG C T ret => ?_)
  subst hl; subst hG
  have C : z_C X cL_part RL 7 (z_rm 13 8 48) := C
  show z_W X (z_un C9 B) 0 0 0 [(0, .ref x), (1, .int pane), (2, .int other), (3, .int a3), (4, .int a4), (5, .ref ou)] []
  refine z_aload C dL_part_0 5 rfl ?_
  refine z_aload_n C dL_part_2 rfl 0 rfl ?_
  refine z_iload_n C dL_part_3 rfl 1 rfl ?_
  refine z_iload_n C dL_part_4 rfl 2 rfl ?_
  refine z_iload_n C dL_part_5 rfl 3 rfl ?_
  refine z_iload C dL_part_6 4 rfl ?_
  refine z_callXVi (rest := [.ref ou]) (k' := 8) (n' := 48) C (z_Xi_fr hd (a_X3_part (z_l X) h_st hC hok pane other a3 a4)) (cs_L_33 C ⟨Nat.le_of_ble_eq_true rfl, Nat.le_of_ble_eq_true rfl⟩) (z_un_l hC.1) rfl rfl rfl rfl (Nat.le_of_ble_eq_true rfl) rfl rfl (Nat.le_of_ble_eq_true rfl) (Nat.le_of_ble_eq_true rfl) dL_part_8 (fun E9 M9 hq => ?_) (fun x9 M9 hq => ?_)
  · obtain ⟨A9, ⟨hcx, hC9⟩, hd9, rfl⟩ := hq
    rcases hcx with ⟨hk9, rfl⟩ | ⟨hk9, rfl⟩
    · refine z_catch C T [] ⟨0, 15, 18, 19⟩ _ rfl (fun z hz => absurd hz List.not_mem_nil) rfl (by decide) kw693 (z_cI C) (fun qx => ?_)
      show z_W X (z_un A9 B) 8 48 18 [(0, .ref x), (1, .int pane), (2, .int other), (3, .int a3), (4, .int a4), (5, .ref ou)] [.ref qx]
      refine z_astore (lv' := [(6, .ref qx), (0, .ref x), (1, .int pane), (2, .int other), (3, .int a3), (4, .int a4), (5, .ref ou)]) C dL_part_18 (by decide) rfl ?_
      refine z_iconst C (v := 1) dL_part_20 (by decide) ?_
      refine ret dL_part_21 rfl ?_ (Nat.le_of_ble_eq_true rfl) (Nat.le_of_ble_eq_true rfl)
      exact w_th hC9 hd9 ho hk9 (by decide)
    · exact absurd hk9 z_lt1
  · obtain ⟨A9, ⟨hk9, hr9, hC9⟩, hd9, rfl⟩ := hq
    refine z_i2l C dL_part_11 ?_
    refine pf_L_13 C (z_un_r hd9 ho) dL_part_12 ?_
    refine z_goto C (tgt := 22) dL_part_15 (by decide) ?_
    refine z_iconst C (v := 0) dL_part_22 (by decide) ?_
    refine ret dL_part_23 rfl ?_ (Nat.le_of_ble_eq_true rfl) (Nat.le_of_ble_eq_true rfl)
    exact w_ok hC9 hd9 ho hk9 hr9
set_option maxRecDepth 20000 in
theorem w_reader (l : Launch) (h_st : l.stackTraces = false) {G : zG} {u : sS} {x pa sp ln rf sb ou t : Nat} {C9 B : zM} {on : Int64} {os : Option Nat} (hC : s_CI G x pa sp ln rf sb u C9) (hd : z_dj C9 B) (ho : B ou = some (cOu on os)) (hok : s_ok t u) (pane other : Int32) : z_Hi l G qL_reader [(0, 11, 14, 19)] (z_rm 13 8 48) [.ref x, .int pane, .int other, .ref ou] (z_un C9 B) (w_P G x pa sp ln rf sb ou B (z_lt (t_2 pane other) 1) u (s_reader u pane.toNatClampNeg other.toNatClampNeg)) := by
  obtain ⟨P, RA, VA, hC⟩ := hC
  refine z_Hi_of _ rfl rfl (Nat.le_of_ble_eq_true rfl) (fun X hl hG C T ret => ?_)
  subst hl; subst hG
  have C : z_C X cL_reader RL 5 (z_rm 13 8 48) := C
  show z_W X (z_un C9 B) 0 0 0 [(0, .ref x), (1, .int pane), (2, .int other), (3, .ref ou)] []
  refine z_aload_n C dL_reader_0 rfl 3 rfl ?_
  refine z_aload_n C dL_reader_1 rfl 0 rfl ?_
  refine z_iload_n C dL_reader_2 rfl 1 rfl ?_
  refine z_iload_n C dL_reader_3 rfl 2 rfl ?_
  refine z_callXVi (rest := [.ref ou]) (k' := 8) (n' := 48) C (z_Xi_fr hd (a_X3_reader (z_l X) h_st hC hok pane other)) (cs_L_37 C ⟨Nat.le_of_ble_eq_true rfl, Nat.le_of_ble_eq_true rfl⟩) (z_un_l hC.1) rfl rfl rfl rfl (Nat.le_of_ble_eq_true rfl) rfl rfl (Nat.le_of_ble_eq_true rfl) (Nat.le_of_ble_eq_true rfl) dL_reader_4 (fun E9 M9 hq => ?_) (fun x9 M9 hq => ?_)
  · obtain ⟨A9, ⟨hcx, hC9⟩, hd9, rfl⟩ := hq
    rcases hcx with ⟨hk9, rfl⟩ | ⟨hk9, rfl⟩
    · refine z_catch C T [] ⟨0, 11, 14, 19⟩ _ rfl (fun z hz => absurd hz List.not_mem_nil) rfl (by decide) kw693 (z_cI C) (fun qx => ?_)
      show z_W X (z_un A9 B) 8 48 14 [(0, .ref x), (1, .int pane), (2, .int other), (3, .ref ou)] [.ref qx]
      refine z_astore (lv' := [(4, .ref qx), (0, .ref x), (1, .int pane), (2, .int other), (3, .ref ou)]) C dL_reader_14 (by decide) rfl ?_
      refine z_iconst C (v := 1) dL_reader_16 (by decide) ?_
      refine ret dL_reader_17 rfl ?_ (Nat.le_of_ble_eq_true rfl) (Nat.le_of_ble_eq_true rfl)
      exact w_th hC9 hd9 ho hk9 (by decide)
    · exact absurd hk9 z_lt1
  · obtain ⟨A9, ⟨hk9, hr9, hC9⟩, hd9, rfl⟩ := hq
    refine z_i2l C dL_reader_7 ?_
    refine pf_L_13 C (z_un_r hd9 ho) dL_reader_8 ?_
    refine z_goto C (tgt := 18) dL_reader_11 (by decide) ?_
    refine z_iconst C (v := 0) dL_reader_18 (by decide) ?_
    refine ret dL_reader_19 rfl ?_ (Nat.le_of_ble_eq_true rfl) (Nat.le_of_ble_eq_true rfl)
    exact w_ok hC9 hd9 ho hk9 hr9
set_option maxRecDepth 20000 in
theorem w_exchange (l : Launch) (h_st : l.stackTraces = false) {G : zG} {u : sS} {x pa sp ln rf sb ou t : Nat} {C9 B : zM} {on : Int64} {os : Option Nat} (hC : s_CI G x pa sp ln rf sb u C9) (hd : z_dj C9 B) (ho : B ou = some (cOu on os)) (hok : s_ok t u) (pane other : Int32) : z_Hi l G qL_exchange [(0, 11, 14, 19)] (z_rm 13 8 48) [.ref x, .int pane, .int other, .ref ou] (z_un C9 B) (w_P G x pa sp ln rf sb ou B (z_lt (t_2 pane other) 1) u (s_exch u pane.toNatClampNeg other.toNatClampNeg)) := by
  obtain ⟨P, RA, VA, hC⟩ := hC
  refine z_Hi_of _ rfl rfl (Nat.le_of_ble_eq_true rfl) (fun X hl hG C T ret => ?_)
  subst hl; subst hG
  have C : z_C X cL_exchange RL 5 (z_rm 13 8 48) := C
  show z_W X (z_un C9 B) 0 0 0 [(0, .ref x), (1, .int pane), (2, .int other), (3, .ref ou)] []
  refine z_aload_n C dL_exchange_0 rfl 3 rfl ?_
  refine z_aload_n C dL_exchange_1 rfl 0 rfl ?_
  refine z_iload_n C dL_exchange_2 rfl 1 rfl ?_
  refine z_iload_n C dL_exchange_3 rfl 2 rfl ?_
  refine z_callXVi (rest := [.ref ou]) (k' := 8) (n' := 48) C (z_Xi_fr hd (a_X3_exchange (z_l X) h_st hC hok pane other)) (cs_L_40 C ⟨Nat.le_of_ble_eq_true rfl, Nat.le_of_ble_eq_true rfl⟩) (z_un_l hC.1) rfl rfl rfl rfl (Nat.le_of_ble_eq_true rfl) rfl rfl (Nat.le_of_ble_eq_true rfl) (Nat.le_of_ble_eq_true rfl) dL_exchange_4 (fun E9 M9 hq => ?_) (fun x9 M9 hq => ?_)
  · obtain ⟨A9, ⟨hcx, hC9⟩, hd9, rfl⟩ := hq
    rcases hcx with ⟨hk9, rfl⟩ | ⟨hk9, rfl⟩
    · refine z_catch C T [] ⟨0, 11, 14, 19⟩ _ rfl (fun z hz => absurd hz List.not_mem_nil) rfl (by decide) kw693 (z_cI C) (fun qx => ?_)
      show z_W X (z_un A9 B) 8 48 14 [(0, .ref x), (1, .int pane), (2, .int other), (3, .ref ou)] [.ref qx]
      refine z_astore (lv' := [(4, .ref qx), (0, .ref x), (1, .int pane), (2, .int other), (3, .ref ou)]) C dL_exchange_14 (by decide) rfl ?_
      refine z_iconst C (v := 1) dL_exchange_16 (by decide) ?_
      refine ret dL_exchange_17 rfl ?_ (Nat.le_of_ble_eq_true rfl) (Nat.le_of_ble_eq_true rfl)
      exact w_th hC9 hd9 ho hk9 (by decide)
    · exact absurd hk9 z_lt1
  · obtain ⟨A9, ⟨hk9, hr9, hC9⟩, hd9, rfl⟩ := hq
    refine z_i2l C dL_exchange_7 ?_
    refine pf_L_13 C (z_un_r hd9 ho) dL_exchange_8 ?_
    refine z_goto C (tgt := 18) dL_exchange_11 (by decide) ?_
    refine z_iconst C (v := 0) dL_exchange_18 (by decide) ?_
    refine ret dL_exchange_19 rfl ?_ (Nat.le_of_ble_eq_true rfl) (Nat.le_of_ble_eq_true rfl)
    exact w_ok hC9 hd9 ho hk9 hr9
set_option maxRecDepth 20000 in
theorem w_go (l : Launch) (h_st : l.stackTraces = false) {G : zG} {u : sS} {x pa sp ln rf sb ou t : Nat} {C9 B : zM} {on : Int64} {os : Option Nat} (hC : s_CI G x pa sp ln rf sb u C9) (hd : z_dj C9 B) (ho : B ou = some (cOu on os)) (hok : s_ok t u) (pane a2 : Int32) : z_Hi l G qL_go [(0, 11, 14, 19)] (z_rm 13 8 48) [.ref x, .int pane, .int a2, .ref ou] (z_un C9 B) (w_P G x pa sp ln rf sb ou B (z_lt (z_is pane 0 5) 1) u (s_go u pane.toNatClampNeg a2)) := by
  obtain ⟨P, RA, VA, hC⟩ := hC
  refine z_Hi_of _ rfl rfl (Nat.le_of_ble_eq_true rfl) (fun X hl hG C T ret => ?_)
  subst hl; subst hG
  have C : z_C X cL_go RL 5 (z_rm 13 8 48) := C
  show z_W X (z_un C9 B) 0 0 0 [(0, .ref x), (1, .int pane), (2, .int a2), (3, .ref ou)] []
  refine z_aload_n C dL_go_0 rfl 3 rfl ?_
  refine z_aload_n C dL_go_1 rfl 0 rfl ?_
  refine z_iload_n C dL_go_2 rfl 1 rfl ?_
  refine z_iload_n C dL_go_3 rfl 2 rfl ?_
  refine z_callXVi (rest := [.ref ou]) (k' := 8) (n' := 48) C (z_Xi_fr hd (a_X3_go (z_l X) h_st hC hok pane a2)) (cs_L_43 C ⟨Nat.le_of_ble_eq_true rfl, Nat.le_of_ble_eq_true rfl⟩) (z_un_l hC.1) rfl rfl rfl rfl (Nat.le_of_ble_eq_true rfl) rfl rfl (Nat.le_of_ble_eq_true rfl) (Nat.le_of_ble_eq_true rfl) dL_go_4 (fun E9 M9 hq => ?_) (fun x9 M9 hq => ?_)
  · obtain ⟨A9, ⟨hcx, hC9⟩, hd9, rfl⟩ := hq
    rcases hcx with ⟨hk9, rfl⟩ | ⟨hk9, rfl⟩
    · refine z_catch C T [] ⟨0, 11, 14, 19⟩ _ rfl (fun z hz => absurd hz List.not_mem_nil) rfl (by decide) kw693 (z_cI C) (fun qx => ?_)
      show z_W X (z_un A9 B) 8 48 14 [(0, .ref x), (1, .int pane), (2, .int a2), (3, .ref ou)] [.ref qx]
      refine z_astore (lv' := [(4, .ref qx), (0, .ref x), (1, .int pane), (2, .int a2), (3, .ref ou)]) C dL_go_14 (by decide) rfl ?_
      refine z_iconst C (v := 1) dL_go_16 (by decide) ?_
      refine ret dL_go_17 rfl ?_ (Nat.le_of_ble_eq_true rfl) (Nat.le_of_ble_eq_true rfl)
      exact w_th hC9 hd9 ho hk9 (by decide)
    · exact absurd hk9 z_lt1
  · obtain ⟨A9, ⟨hk9, hr9, hC9⟩, hd9, rfl⟩ := hq
    refine z_i2l C dL_go_7 ?_
    refine pf_L_13 C (z_un_r hd9 ho) dL_go_8 ?_
    refine z_goto C (tgt := 18) dL_go_11 (by decide) ?_
    refine z_iconst C (v := 0) dL_go_18 (by decide) ?_
    refine ret dL_go_19 rfl ?_ (Nat.le_of_ble_eq_true rfl) (Nat.le_of_ble_eq_true rfl)
    exact w_ok hC9 hd9 ho hk9 hr9
set_option maxRecDepth 20000 in
theorem w_move (l : Launch) (h_st : l.stackTraces = false) {G : zG} {u : sS} {x pa sp ln rf sb ou t : Nat} {C9 B : zM} {on : Int64} {os : Option Nat} (hC : s_CI G x pa sp ln rf sb u C9) (hd : z_dj C9 B) (ho : B ou = some (cOu on os)) (hok : s_ok t u) (pane a2 : Int32) : z_Hi l G qL_move [(0, 11, 14, 19), (0, 11, 18, 21)] (z_rm 13 8 48) [.ref x, .int pane, .int a2, .ref ou] (z_un C9 B) (w_P G x pa sp ln rf sb ou B (z_lt (z_is pane 0 5) (z_is a2 (-20) 20)) u (s_move u pane.toNatClampNeg a2)) := by
  obtain ⟨P, RA, VA, hC⟩ := hC
  refine z_Hi_of _ rfl rfl (Nat.le_of_ble_eq_true rfl) (fun X hl hG C T ret => ?_)
  subst hl; subst hG
  have C : z_C X cL_move RL 5 (z_rm 13 8 48) := C
  show z_W X (z_un C9 B) 0 0 0 [(0, .ref x), (1, .int pane), (2, .int a2), (3, .ref ou)] []
  refine z_aload_n C dL_move_0 rfl 3 rfl ?_
  refine z_aload_n C dL_move_1 rfl 0 rfl ?_
  refine z_iload_n C dL_move_2 rfl 1 rfl ?_
  refine z_iload_n C dL_move_3 rfl 2 rfl ?_
  refine z_callXVi (rest := [.ref ou]) (k' := 8) (n' := 48) C (z_Xi_fr hd (a_X3_move (z_l X) h_st hC hok pane a2)) (cs_L_46 C ⟨Nat.le_of_ble_eq_true rfl, Nat.le_of_ble_eq_true rfl⟩) (z_un_l hC.1) rfl rfl rfl rfl (Nat.le_of_ble_eq_true rfl) rfl rfl (Nat.le_of_ble_eq_true rfl) (Nat.le_of_ble_eq_true rfl) dL_move_4 (fun E9 M9 hq => ?_) (fun x9 M9 hq => ?_)
  · obtain ⟨A9, ⟨hcx, hC9⟩, hd9, rfl⟩ := hq
    rcases hcx with ⟨hk9, rfl⟩ | ⟨hk9, rfl⟩
    · refine z_catch C T [] ⟨0, 11, 14, 19⟩ _ rfl (fun z hz => absurd hz List.not_mem_nil) rfl (by decide) kw693 (z_cI C) (fun qx => ?_)
      show z_W X (z_un A9 B) 8 48 14 [(0, .ref x), (1, .int pane), (2, .int a2), (3, .ref ou)] [.ref qx]
      refine z_astore (lv' := [(4, .ref qx), (0, .ref x), (1, .int pane), (2, .int a2), (3, .ref ou)]) C dL_move_14 (by decide) rfl ?_
      refine z_iconst C (v := 1) dL_move_16 (by decide) ?_
      refine ret dL_move_17 rfl ?_ (Nat.le_of_ble_eq_true rfl) (Nat.le_of_ble_eq_true rfl)
      exact w_th hC9 hd9 ho hk9 (by decide)
    · refine z_catch C T [⟨0, 11, 14, 19⟩] ⟨0, 11, 18, 21⟩ _ rfl (fun z hz => by rw [List.mem_singleton.mp hz]; exact Or.inr ⟨by decide, _, kw693, z_pasA C⟩) rfl (by decide) kw694 (z_cA C) (fun qx => ?_)
      show z_W X (z_un A9 B) 8 48 18 [(0, .ref x), (1, .int pane), (2, .int a2), (3, .ref ou)] [.ref qx]
      refine z_astore (lv' := [(4, .ref qx), (0, .ref x), (1, .int pane), (2, .int a2), (3, .ref ou)]) C dL_move_18 (by decide) rfl ?_
      refine z_iconst C (v := 2) dL_move_20 (by decide) ?_
      refine ret dL_move_21 rfl ?_ (Nat.le_of_ble_eq_true rfl) (Nat.le_of_ble_eq_true rfl)
      exact w_th hC9 hd9 ho hk9 (by decide)
  · obtain ⟨A9, ⟨hk9, hr9, hC9⟩, hd9, rfl⟩ := hq
    refine z_i2l C dL_move_7 ?_
    refine pf_L_13 C (z_un_r hd9 ho) dL_move_8 ?_
    refine z_goto C (tgt := 22) dL_move_11 (by decide) ?_
    refine z_iconst C (v := 0) dL_move_22 (by decide) ?_
    refine ret dL_move_23 rfl ?_ (Nat.le_of_ble_eq_true rfl) (Nat.le_of_ble_eq_true rfl)
    exact w_ok hC9 hd9 ho hk9 hr9
set_option maxRecDepth 20000 in
theorem w_end (l : Launch) (h_st : l.stackTraces = false) {G : zG} {u : sS} {x pa sp ln rf sb ou t : Nat} {C9 B : zM} {on : Int64} {os : Option Nat} (hC : s_CI G x pa sp ln rf sb u C9) (hd : z_dj C9 B) (ho : B ou = some (cOu on os)) (hok : s_ok t u) (pane a2 : Int32) : z_Hi l G qL_end [(0, 11, 14, 19)] (z_rm 13 8 48) [.ref x, .int pane, .int a2, .ref ou] (z_un C9 B) (w_P G x pa sp ln rf sb ou B (z_lt (z_is pane 0 5) 1) u (s_end u pane.toNatClampNeg a2)) := by
  obtain ⟨P, RA, VA, hC⟩ := hC
  refine z_Hi_of _ rfl rfl (Nat.le_of_ble_eq_true rfl) (fun X hl hG C T ret => ?_)
  subst hl; subst hG
  have C : z_C X cL_end RL 5 (z_rm 13 8 48) := C
  show z_W X (z_un C9 B) 0 0 0 [(0, .ref x), (1, .int pane), (2, .int a2), (3, .ref ou)] []
  refine z_aload_n C dL_end_0 rfl 3 rfl ?_
  refine z_aload_n C dL_end_1 rfl 0 rfl ?_
  refine z_iload_n C dL_end_2 rfl 1 rfl ?_
  refine z_iload_n C dL_end_3 rfl 2 rfl ?_
  refine z_callXVi (rest := [.ref ou]) (k' := 8) (n' := 48) C (z_Xi_fr hd (a_X3_end (z_l X) h_st hC hok pane a2)) (cs_L_49 C ⟨Nat.le_of_ble_eq_true rfl, Nat.le_of_ble_eq_true rfl⟩) (z_un_l hC.1) rfl rfl rfl rfl (Nat.le_of_ble_eq_true rfl) rfl rfl (Nat.le_of_ble_eq_true rfl) (Nat.le_of_ble_eq_true rfl) dL_end_4 (fun E9 M9 hq => ?_) (fun x9 M9 hq => ?_)
  · obtain ⟨A9, ⟨hcx, hC9⟩, hd9, rfl⟩ := hq
    rcases hcx with ⟨hk9, rfl⟩ | ⟨hk9, rfl⟩
    · refine z_catch C T [] ⟨0, 11, 14, 19⟩ _ rfl (fun z hz => absurd hz List.not_mem_nil) rfl (by decide) kw693 (z_cI C) (fun qx => ?_)
      show z_W X (z_un A9 B) 8 48 14 [(0, .ref x), (1, .int pane), (2, .int a2), (3, .ref ou)] [.ref qx]
      refine z_astore (lv' := [(4, .ref qx), (0, .ref x), (1, .int pane), (2, .int a2), (3, .ref ou)]) C dL_end_14 (by decide) rfl ?_
      refine z_iconst C (v := 1) dL_end_16 (by decide) ?_
      refine ret dL_end_17 rfl ?_ (Nat.le_of_ble_eq_true rfl) (Nat.le_of_ble_eq_true rfl)
      exact w_th hC9 hd9 ho hk9 (by decide)
    · exact absurd hk9 z_lt1
  · obtain ⟨A9, ⟨hk9, hr9, hC9⟩, hd9, rfl⟩ := hq
    refine z_i2l C dL_end_7 ?_
    refine pf_L_13 C (z_un_r hd9 ho) dL_end_8 ?_
    refine z_goto C (tgt := 18) dL_end_11 (by decide) ?_
    refine z_iconst C (v := 0) dL_end_18 (by decide) ?_
    refine ret dL_end_19 rfl ?_ (Nat.le_of_ble_eq_true rfl) (Nat.le_of_ble_eq_true rfl)
    exact w_ok hC9 hd9 ho hk9 hr9
set_option maxRecDepth 20000 in
theorem w_stretch (l : Launch) (h_st : l.stackTraces = false) {G : zG} {u : sS} {x pa sp ln rf sb ou t : Nat} {C9 B : zM} {on : Int64} {os : Option Nat} (hC : s_CI G x pa sp ln rf sb u C9) (hd : z_dj C9 B) (ho : B ou = some (cOu on os)) (hok : s_ok t u) (pane a2 : Int32) : z_Hi l G qL_stretch [(0, 11, 14, 19), (0, 11, 18, 21)] (z_rm 13 8 48) [.ref x, .int pane, .int a2, .ref ou] (z_un C9 B) (w_P G x pa sp ln rf sb ou B (z_lt (z_is pane 0 5) (z_is a2 (-20) 20)) u (s_stretch u pane.toNatClampNeg a2)) := by
  obtain ⟨P, RA, VA, hC⟩ := hC
  refine z_Hi_of _ rfl rfl (Nat.le_of_ble_eq_true rfl) (fun X hl hG C T ret => ?_)
  subst hl; subst hG
  have C : z_C X cL_stretch RL 5 (z_rm 13 8 48) := C
  show z_W X (z_un C9 B) 0 0 0 [(0, .ref x), (1, .int pane), (2, .int a2), (3, .ref ou)] []
  refine z_aload_n C dL_stretch_0 rfl 3 rfl ?_
  refine z_aload_n C dL_stretch_1 rfl 0 rfl ?_
  refine z_iload_n C dL_stretch_2 rfl 1 rfl ?_
  refine z_iload_n C dL_stretch_3 rfl 2 rfl ?_
  refine z_callXVi (rest := [.ref ou]) (k' := 8) (n' := 48) C (z_Xi_fr hd (a_X3_stretch (z_l X) h_st hC hok pane a2)) (cs_L_52 C ⟨Nat.le_of_ble_eq_true rfl, Nat.le_of_ble_eq_true rfl⟩) (z_un_l hC.1) rfl rfl rfl rfl (Nat.le_of_ble_eq_true rfl) rfl rfl (Nat.le_of_ble_eq_true rfl) (Nat.le_of_ble_eq_true rfl) dL_stretch_4 (fun E9 M9 hq => ?_) (fun x9 M9 hq => ?_)
  · obtain ⟨A9, ⟨hcx, hC9⟩, hd9, rfl⟩ := hq
    rcases hcx with ⟨hk9, rfl⟩ | ⟨hk9, rfl⟩
    · refine z_catch C T [] ⟨0, 11, 14, 19⟩ _ rfl (fun z hz => absurd hz List.not_mem_nil) rfl (by decide) kw693 (z_cI C) (fun qx => ?_)
      show z_W X (z_un A9 B) 8 48 14 [(0, .ref x), (1, .int pane), (2, .int a2), (3, .ref ou)] [.ref qx]
      refine z_astore (lv' := [(4, .ref qx), (0, .ref x), (1, .int pane), (2, .int a2), (3, .ref ou)]) C dL_stretch_14 (by decide) rfl ?_
      refine z_iconst C (v := 1) dL_stretch_16 (by decide) ?_
      refine ret dL_stretch_17 rfl ?_ (Nat.le_of_ble_eq_true rfl) (Nat.le_of_ble_eq_true rfl)
      exact w_th hC9 hd9 ho hk9 (by decide)
    · refine z_catch C T [⟨0, 11, 14, 19⟩] ⟨0, 11, 18, 21⟩ _ rfl (fun z hz => by rw [List.mem_singleton.mp hz]; exact Or.inr ⟨by decide, _, kw693, z_pasA C⟩) rfl (by decide) kw694 (z_cA C) (fun qx => ?_)
      show z_W X (z_un A9 B) 8 48 18 [(0, .ref x), (1, .int pane), (2, .int a2), (3, .ref ou)] [.ref qx]
      refine z_astore (lv' := [(4, .ref qx), (0, .ref x), (1, .int pane), (2, .int a2), (3, .ref ou)]) C dL_stretch_18 (by decide) rfl ?_
      refine z_iconst C (v := 2) dL_stretch_20 (by decide) ?_
      refine ret dL_stretch_21 rfl ?_ (Nat.le_of_ble_eq_true rfl) (Nat.le_of_ble_eq_true rfl)
      exact w_th hC9 hd9 ho hk9 (by decide)
  · obtain ⟨A9, ⟨hk9, hr9, hC9⟩, hd9, rfl⟩ := hq
    refine z_i2l C dL_stretch_7 ?_
    refine pf_L_13 C (z_un_r hd9 ho) dL_stretch_8 ?_
    refine z_goto C (tgt := 22) dL_stretch_11 (by decide) ?_
    refine z_iconst C (v := 0) dL_stretch_22 (by decide) ?_
    refine ret dL_stretch_23 rfl ?_ (Nat.le_of_ble_eq_true rfl) (Nat.le_of_ble_eq_true rfl)
    exact w_ok hC9 hd9 ho hk9 hr9
set_option maxRecDepth 20000 in
theorem w_mark (l : Launch) (h_st : l.stackTraces = false) {G : zG} {u : sS} {x pa sp ln rf sb ou t : Nat} {C9 B : zM} {on : Int64} {os : Option Nat} (hC : s_CI G x pa sp ln rf sb u C9) (hd : z_dj C9 B) (ho : B ou = some (cOu on os)) (hok : s_ok t u) (pane : Int32) : z_Hi l G qL_mark [(0, 10, 13, 19)] (z_rm 13 8 48) [.ref x, .int pane, .ref ou] (z_un C9 B) (w_P G x pa sp ln rf sb ou B (z_lt (z_is pane 0 5) 1) u (s_mark u pane.toNatClampNeg)) := by
  obtain ⟨P, RA, VA, hC⟩ := hC
  refine z_Hi_of _ rfl rfl (Nat.le_of_ble_eq_true rfl) (fun X hl hG C T ret => ?_)
  subst hl; subst hG
  have C : z_C X cL_mark RL 4 (z_rm 13 8 48) := C
  show z_W X (z_un C9 B) 0 0 0 [(0, .ref x), (1, .int pane), (2, .ref ou)] []
  refine z_aload_n C dL_mark_0 rfl 2 rfl ?_
  refine z_aload_n C dL_mark_1 rfl 0 rfl ?_
  refine z_iload_n C dL_mark_2 rfl 1 rfl ?_
  refine z_callXVi (rest := [.ref ou]) (k' := 8) (n' := 48) C (z_Xi_fr hd (a_X3_mark (z_l X) h_st hC hok pane)) (cs_L_55 C ⟨Nat.le_of_ble_eq_true rfl, Nat.le_of_ble_eq_true rfl⟩) (z_un_l hC.1) rfl rfl rfl rfl (Nat.le_of_ble_eq_true rfl) rfl rfl (Nat.le_of_ble_eq_true rfl) (Nat.le_of_ble_eq_true rfl) dL_mark_3 (fun E9 M9 hq => ?_) (fun x9 M9 hq => ?_)
  · obtain ⟨A9, ⟨hcx, hC9⟩, hd9, rfl⟩ := hq
    rcases hcx with ⟨hk9, rfl⟩ | ⟨hk9, rfl⟩
    · refine z_catch C T [] ⟨0, 10, 13, 19⟩ _ rfl (fun z hz => absurd hz List.not_mem_nil) rfl (by decide) kw693 (z_cI C) (fun qx => ?_)
      show z_W X (z_un A9 B) 8 48 13 [(0, .ref x), (1, .int pane), (2, .ref ou)] [.ref qx]
      refine z_astore_n (lv' := [(3, .ref qx), (0, .ref x), (1, .int pane), (2, .ref ou)]) C dL_mark_13 rfl (by decide) rfl ?_
      refine z_iconst C (v := 1) dL_mark_14 (by decide) ?_
      refine ret dL_mark_15 rfl ?_ (Nat.le_of_ble_eq_true rfl) (Nat.le_of_ble_eq_true rfl)
      exact w_th hC9 hd9 ho hk9 (by decide)
    · exact absurd hk9 z_lt1
  · obtain ⟨A9, ⟨hk9, hr9, hC9⟩, hd9, rfl⟩ := hq
    refine z_i2l C dL_mark_6 ?_
    refine pf_L_13 C (z_un_r hd9 ho) dL_mark_7 ?_
    refine z_goto C (tgt := 16) dL_mark_10 (by decide) ?_
    refine z_iconst C (v := 0) dL_mark_16 (by decide) ?_
    refine ret dL_mark_17 rfl ?_ (Nat.le_of_ble_eq_true rfl) (Nat.le_of_ble_eq_true rfl)
    exact w_ok hC9 hd9 ho hk9 hr9
set_option maxRecDepth 20000 in
theorem w_back (l : Launch) (h_st : l.stackTraces = false) {G : zG} {u : sS} {x pa sp ln rf sb ou t : Nat} {C9 B : zM} {on : Int64} {os : Option Nat} (hC : s_CI G x pa sp ln rf sb u C9) (hd : z_dj C9 B) (ho : B ou = some (cOu on os)) (hok : s_ok t u) (pane : Int32) : z_Hi l G qL_back [(0, 10, 13, 19)] (z_rm 13 8 48) [.ref x, .int pane, .ref ou] (z_un C9 B) (w_P G x pa sp ln rf sb ou B (z_lt (z_is pane 0 5) 1) u (s_back u pane.toNatClampNeg)) := by
  obtain ⟨P, RA, VA, hC⟩ := hC
  refine z_Hi_of _ rfl rfl (Nat.le_of_ble_eq_true rfl) (fun X hl hG C T ret => ?_)
  subst hl; subst hG
  have C : z_C X cL_back RL 4 (z_rm 13 8 48) := C
  show z_W X (z_un C9 B) 0 0 0 [(0, .ref x), (1, .int pane), (2, .ref ou)] []
  refine z_aload_n C dL_back_0 rfl 2 rfl ?_
  refine z_aload_n C dL_back_1 rfl 0 rfl ?_
  refine z_iload_n C dL_back_2 rfl 1 rfl ?_
  refine z_callXVi (rest := [.ref ou]) (k' := 8) (n' := 48) C (z_Xi_fr hd (a_X3_back (z_l X) h_st hC hok pane)) (cs_L_59 C ⟨Nat.le_of_ble_eq_true rfl, Nat.le_of_ble_eq_true rfl⟩) (z_un_l hC.1) rfl rfl rfl rfl (Nat.le_of_ble_eq_true rfl) rfl rfl (Nat.le_of_ble_eq_true rfl) (Nat.le_of_ble_eq_true rfl) dL_back_3 (fun E9 M9 hq => ?_) (fun x9 M9 hq => ?_)
  · obtain ⟨A9, ⟨hcx, hC9⟩, hd9, rfl⟩ := hq
    rcases hcx with ⟨hk9, rfl⟩ | ⟨hk9, rfl⟩
    · refine z_catch C T [] ⟨0, 10, 13, 19⟩ _ rfl (fun z hz => absurd hz List.not_mem_nil) rfl (by decide) kw693 (z_cI C) (fun qx => ?_)
      show z_W X (z_un A9 B) 8 48 13 [(0, .ref x), (1, .int pane), (2, .ref ou)] [.ref qx]
      refine z_astore_n (lv' := [(3, .ref qx), (0, .ref x), (1, .int pane), (2, .ref ou)]) C dL_back_13 rfl (by decide) rfl ?_
      refine z_iconst C (v := 1) dL_back_14 (by decide) ?_
      refine ret dL_back_15 rfl ?_ (Nat.le_of_ble_eq_true rfl) (Nat.le_of_ble_eq_true rfl)
      exact w_th hC9 hd9 ho hk9 (by decide)
    · exact absurd hk9 z_lt1
  · obtain ⟨A9, ⟨hk9, hr9, hC9⟩, hd9, rfl⟩ := hq
    refine z_i2l C dL_back_6 ?_
    refine pf_L_13 C (z_un_r hd9 ho) dL_back_7 ?_
    refine z_goto C (tgt := 16) dL_back_10 (by decide) ?_
    refine z_iconst C (v := 0) dL_back_16 (by decide) ?_
    refine ret dL_back_17 rfl ?_ (Nat.le_of_ble_eq_true rfl) (Nat.le_of_ble_eq_true rfl)
    exact w_ok hC9 hd9 ho hk9 hr9
set_option maxRecDepth 20000 in
theorem w_clear (l : Launch) (h_st : l.stackTraces = false) {G : zG} {u : sS} {x pa sp ln rf sb ou t : Nat} {C9 B : zM} {on : Int64} {os : Option Nat} (hC : s_CI G x pa sp ln rf sb u C9) (hd : z_dj C9 B) (ho : B ou = some (cOu on os)) (hok : s_ok t u) (pane : Int32) : z_Hi l G qL_clear [(0, 10, 13, 19)] (z_rm 13 8 48) [.ref x, .int pane, .ref ou] (z_un C9 B) (w_P G x pa sp ln rf sb ou B (z_lt (z_is pane 0 5) 1) u (s_clear u pane.toNatClampNeg)) := by
  obtain ⟨P, RA, VA, hC⟩ := hC
  refine z_Hi_of _ rfl rfl (Nat.le_of_ble_eq_true rfl) (fun X hl hG C T ret => ?_)
  subst hl; subst hG
  have C : z_C X cL_clear RL 4 (z_rm 13 8 48) := C
  show z_W X (z_un C9 B) 0 0 0 [(0, .ref x), (1, .int pane), (2, .ref ou)] []
  refine z_aload_n C dL_clear_0 rfl 2 rfl ?_
  refine z_aload_n C dL_clear_1 rfl 0 rfl ?_
  refine z_iload_n C dL_clear_2 rfl 1 rfl ?_
  refine z_callXVi (rest := [.ref ou]) (k' := 8) (n' := 48) C (z_Xi_fr hd (a_X3_clear (z_l X) h_st hC hok pane)) (cs_L_62 C ⟨Nat.le_of_ble_eq_true rfl, Nat.le_of_ble_eq_true rfl⟩) (z_un_l hC.1) rfl rfl rfl rfl (Nat.le_of_ble_eq_true rfl) rfl rfl (Nat.le_of_ble_eq_true rfl) (Nat.le_of_ble_eq_true rfl) dL_clear_3 (fun E9 M9 hq => ?_) (fun x9 M9 hq => ?_)
  · obtain ⟨A9, ⟨hcx, hC9⟩, hd9, rfl⟩ := hq
    rcases hcx with ⟨hk9, rfl⟩ | ⟨hk9, rfl⟩
    · refine z_catch C T [] ⟨0, 10, 13, 19⟩ _ rfl (fun z hz => absurd hz List.not_mem_nil) rfl (by decide) kw693 (z_cI C) (fun qx => ?_)
      show z_W X (z_un A9 B) 8 48 13 [(0, .ref x), (1, .int pane), (2, .ref ou)] [.ref qx]
      refine z_astore_n (lv' := [(3, .ref qx), (0, .ref x), (1, .int pane), (2, .ref ou)]) C dL_clear_13 rfl (by decide) rfl ?_
      refine z_iconst C (v := 1) dL_clear_14 (by decide) ?_
      refine ret dL_clear_15 rfl ?_ (Nat.le_of_ble_eq_true rfl) (Nat.le_of_ble_eq_true rfl)
      exact w_th hC9 hd9 ho hk9 (by decide)
    · exact absurd hk9 z_lt1
  · obtain ⟨A9, ⟨hk9, hr9, hC9⟩, hd9, rfl⟩ := hq
    refine z_i2l C dL_clear_6 ?_
    refine pf_L_13 C (z_un_r hd9 ho) dL_clear_7 ?_
    refine z_goto C (tgt := 16) dL_clear_10 (by decide) ?_
    refine z_iconst C (v := 0) dL_clear_16 (by decide) ?_
    refine ret dL_clear_17 rfl ?_ (Nat.le_of_ble_eq_true rfl) (Nat.le_of_ble_eq_true rfl)
    exact w_ok hC9 hd9 ho hk9 hr9
set_option maxRecDepth 20000 in
theorem w_flip (l : Launch) (h_st : l.stackTraces = false) {G : zG} {u : sS} {x pa sp ln rf sb ou t : Nat} {C9 B : zM} {on : Int64} {os : Option Nat} (hC : s_CI G x pa sp ln rf sb u C9) (hd : z_dj C9 B) (ho : B ou = some (cOu on os)) (hok : s_ok t u) (pane : Int32) : z_Hi l G qL_flip [(0, 10, 13, 19)] (z_rm 13 8 48) [.ref x, .int pane, .ref ou] (z_un C9 B) (w_P G x pa sp ln rf sb ou B (z_lt (z_is pane 0 5) 1) u (s_flip u pane.toNatClampNeg)) := by
  obtain ⟨P, RA, VA, hC⟩ := hC
  refine z_Hi_of _ rfl rfl (Nat.le_of_ble_eq_true rfl) (fun X hl hG C T ret => ?_)
  subst hl; subst hG
  have C : z_C X cL_flip RL 4 (z_rm 13 8 48) := C
  show z_W X (z_un C9 B) 0 0 0 [(0, .ref x), (1, .int pane), (2, .ref ou)] []
  refine z_aload_n C dL_flip_0 rfl 2 rfl ?_
  refine z_aload_n C dL_flip_1 rfl 0 rfl ?_
  refine z_iload_n C dL_flip_2 rfl 1 rfl ?_
  refine z_callXVi (rest := [.ref ou]) (k' := 8) (n' := 48) C (z_Xi_fr hd (a_X3_flip (z_l X) h_st hC hok pane)) (cs_L_65 C ⟨Nat.le_of_ble_eq_true rfl, Nat.le_of_ble_eq_true rfl⟩) (z_un_l hC.1) rfl rfl rfl rfl (Nat.le_of_ble_eq_true rfl) rfl rfl (Nat.le_of_ble_eq_true rfl) (Nat.le_of_ble_eq_true rfl) dL_flip_3 (fun E9 M9 hq => ?_) (fun x9 M9 hq => ?_)
  · obtain ⟨A9, ⟨hcx, hC9⟩, hd9, rfl⟩ := hq
    rcases hcx with ⟨hk9, rfl⟩ | ⟨hk9, rfl⟩
    · refine z_catch C T [] ⟨0, 10, 13, 19⟩ _ rfl (fun z hz => absurd hz List.not_mem_nil) rfl (by decide) kw693 (z_cI C) (fun qx => ?_)
      show z_W X (z_un A9 B) 8 48 13 [(0, .ref x), (1, .int pane), (2, .ref ou)] [.ref qx]
      refine z_astore_n (lv' := [(3, .ref qx), (0, .ref x), (1, .int pane), (2, .ref ou)]) C dL_flip_13 rfl (by decide) rfl ?_
      refine z_iconst C (v := 1) dL_flip_14 (by decide) ?_
      refine ret dL_flip_15 rfl ?_ (Nat.le_of_ble_eq_true rfl) (Nat.le_of_ble_eq_true rfl)
      exact w_th hC9 hd9 ho hk9 (by decide)
    · exact absurd hk9 z_lt1
  · obtain ⟨A9, ⟨hk9, hr9, hC9⟩, hd9, rfl⟩ := hq
    refine z_i2l C dL_flip_6 ?_
    refine pf_L_13 C (z_un_r hd9 ho) dL_flip_7 ?_
    refine z_goto C (tgt := 16) dL_flip_10 (by decide) ?_
    refine z_iconst C (v := 0) dL_flip_16 (by decide) ?_
    refine ret dL_flip_17 rfl ?_ (Nat.le_of_ble_eq_true rfl) (Nat.le_of_ble_eq_true rfl)
    exact w_ok hC9 hd9 ho hk9 hr9
set_option maxRecDepth 20000 in
theorem w_rewind (l : Launch) (h_st : l.stackTraces = false) {G : zG} {u : sS} {x pa sp ln rf sb ou t : Nat} {C9 B : zM} {on : Int64} {os : Option Nat} (hC : s_CI G x pa sp ln rf sb u C9) (hd : z_dj C9 B) (ho : B ou = some (cOu on os)) (hok : s_ok t u) (pane : Int32) : z_Hi l G qL_rewind [(0, 10, 13, 19)] (z_rm 13 8 48) [.ref x, .int pane, .ref ou] (z_un C9 B) (w_P G x pa sp ln rf sb ou B (z_lt (z_is pane 0 5) 1) u (s_rewind u pane.toNatClampNeg)) := by
  obtain ⟨P, RA, VA, hC⟩ := hC
  refine z_Hi_of _ rfl rfl (Nat.le_of_ble_eq_true rfl) (fun X hl hG C T ret => ?_)
  subst hl; subst hG
  have C : z_C X cL_rewind RL 4 (z_rm 13 8 48) := C
  show z_W X (z_un C9 B) 0 0 0 [(0, .ref x), (1, .int pane), (2, .ref ou)] []
  refine z_aload_n C dL_rewind_0 rfl 2 rfl ?_
  refine z_aload_n C dL_rewind_1 rfl 0 rfl ?_
  refine z_iload_n C dL_rewind_2 rfl 1 rfl ?_
  refine z_callXVi (rest := [.ref ou]) (k' := 8) (n' := 48) C (z_Xi_fr hd (a_X3_rewind (z_l X) h_st hC hok pane)) (cs_L_68 C ⟨Nat.le_of_ble_eq_true rfl, Nat.le_of_ble_eq_true rfl⟩) (z_un_l hC.1) rfl rfl rfl rfl (Nat.le_of_ble_eq_true rfl) rfl rfl (Nat.le_of_ble_eq_true rfl) (Nat.le_of_ble_eq_true rfl) dL_rewind_3 (fun E9 M9 hq => ?_) (fun x9 M9 hq => ?_)
  · obtain ⟨A9, ⟨hcx, hC9⟩, hd9, rfl⟩ := hq
    rcases hcx with ⟨hk9, rfl⟩ | ⟨hk9, rfl⟩
    · refine z_catch C T [] ⟨0, 10, 13, 19⟩ _ rfl (fun z hz => absurd hz List.not_mem_nil) rfl (by decide) kw693 (z_cI C) (fun qx => ?_)
      show z_W X (z_un A9 B) 8 48 13 [(0, .ref x), (1, .int pane), (2, .ref ou)] [.ref qx]
      refine z_astore_n (lv' := [(3, .ref qx), (0, .ref x), (1, .int pane), (2, .ref ou)]) C dL_rewind_13 rfl (by decide) rfl ?_
      refine z_iconst C (v := 1) dL_rewind_14 (by decide) ?_
      refine ret dL_rewind_15 rfl ?_ (Nat.le_of_ble_eq_true rfl) (Nat.le_of_ble_eq_true rfl)
      exact w_th hC9 hd9 ho hk9 (by decide)
    · exact absurd hk9 z_lt1
  · obtain ⟨A9, ⟨hk9, hr9, hC9⟩, hd9, rfl⟩ := hq
    refine z_i2l C dL_rewind_6 ?_
    refine pf_L_13 C (z_un_r hd9 ho) dL_rewind_7 ?_
    refine z_goto C (tgt := 16) dL_rewind_10 (by decide) ?_
    refine z_iconst C (v := 0) dL_rewind_16 (by decide) ?_
    refine ret dL_rewind_17 rfl ?_ (Nat.le_of_ble_eq_true rfl) (Nat.le_of_ble_eq_true rfl)
    exact w_ok hC9 hd9 ho hk9 hr9
set_option maxRecDepth 20000 in
theorem w_put (l : Launch) (h_st : l.stackTraces = false) {G : zG} {u : sS} {x pa sp ln rf sb ou t : Nat} {C9 B : zM} {on : Int64} {os : Option Nat} (hC : s_CI G x pa sp ln rf sb u C9) (hd : z_dj C9 B) (ho : B ou = some (cOu on os)) (hok : s_ok t u) (pane a2 : Int32) : z_Hi l G qL_put [(0, 11, 14, 19), (0, 11, 18, 21)] (z_rm 13 8 48) [.ref x, .int pane, .int a2, .ref ou] (z_un C9 B) (w_P G x pa sp ln rf sb ou B (z_lt (z_is pane 0 5) (t_nn a2)) u (s_put u pane.toNatClampNeg a2)) := by
  obtain ⟨P, RA, VA, hC⟩ := hC
  refine z_Hi_of _ rfl rfl (Nat.le_of_ble_eq_true rfl) (fun X hl hG C T ret => ?_)
  subst hl; subst hG
  have C : z_C X cL_put RL 5 (z_rm 13 8 48) := C
  show z_W X (z_un C9 B) 0 0 0 [(0, .ref x), (1, .int pane), (2, .int a2), (3, .ref ou)] []
  refine z_aload_n C dL_put_0 rfl 3 rfl ?_
  refine z_aload_n C dL_put_1 rfl 0 rfl ?_
  refine z_iload_n C dL_put_2 rfl 1 rfl ?_
  refine z_iload_n C dL_put_3 rfl 2 rfl ?_
  refine z_callXVi (rest := [.ref ou]) (k' := 8) (n' := 48) C (z_Xi_fr hd (a_X3_put (z_l X) h_st hC hok pane a2)) (cs_L_71 C ⟨Nat.le_of_ble_eq_true rfl, Nat.le_of_ble_eq_true rfl⟩) (z_un_l hC.1) rfl rfl rfl rfl (Nat.le_of_ble_eq_true rfl) rfl rfl (Nat.le_of_ble_eq_true rfl) (Nat.le_of_ble_eq_true rfl) dL_put_4 (fun E9 M9 hq => ?_) (fun x9 M9 hq => ?_)
  · obtain ⟨A9, ⟨hcx, hC9⟩, hd9, rfl⟩ := hq
    rcases hcx with ⟨hk9, rfl⟩ | ⟨hk9, rfl⟩
    · refine z_catch C T [] ⟨0, 11, 14, 19⟩ _ rfl (fun z hz => absurd hz List.not_mem_nil) rfl (by decide) kw693 (z_cI C) (fun qx => ?_)
      show z_W X (z_un A9 B) 8 48 14 [(0, .ref x), (1, .int pane), (2, .int a2), (3, .ref ou)] [.ref qx]
      refine z_astore (lv' := [(4, .ref qx), (0, .ref x), (1, .int pane), (2, .int a2), (3, .ref ou)]) C dL_put_14 (by decide) rfl ?_
      refine z_iconst C (v := 1) dL_put_16 (by decide) ?_
      refine ret dL_put_17 rfl ?_ (Nat.le_of_ble_eq_true rfl) (Nat.le_of_ble_eq_true rfl)
      exact w_th hC9 hd9 ho hk9 (by decide)
    · refine z_catch C T [⟨0, 11, 14, 19⟩] ⟨0, 11, 18, 21⟩ _ rfl (fun z hz => by rw [List.mem_singleton.mp hz]; exact Or.inr ⟨by decide, _, kw693, z_pasA C⟩) rfl (by decide) kw694 (z_cA C) (fun qx => ?_)
      show z_W X (z_un A9 B) 8 48 18 [(0, .ref x), (1, .int pane), (2, .int a2), (3, .ref ou)] [.ref qx]
      refine z_astore (lv' := [(4, .ref qx), (0, .ref x), (1, .int pane), (2, .int a2), (3, .ref ou)]) C dL_put_18 (by decide) rfl ?_
      refine z_iconst C (v := 2) dL_put_20 (by decide) ?_
      refine ret dL_put_21 rfl ?_ (Nat.le_of_ble_eq_true rfl) (Nat.le_of_ble_eq_true rfl)
      exact w_th hC9 hd9 ho hk9 (by decide)
  · obtain ⟨A9, ⟨hk9, hr9, hC9⟩, hd9, rfl⟩ := hq
    refine z_i2l C dL_put_7 ?_
    refine pf_L_13 C (z_un_r hd9 ho) dL_put_8 ?_
    refine z_goto C (tgt := 22) dL_put_11 (by decide) ?_
    refine z_iconst C (v := 0) dL_put_22 (by decide) ?_
    refine ret dL_put_23 rfl ?_ (Nat.le_of_ble_eq_true rfl) (Nat.le_of_ble_eq_true rfl)
    exact w_ok hC9 hd9 ho hk9 hr9
set_option maxRecDepth 20000 in
theorem w_putAt (l : Launch) (h_st : l.stackTraces = false) {G : zG} {u : sS} {x pa sp ln rf sb ou t : Nat} {C9 B : zM} {on : Int64} {os : Option Nat} (hC : s_CI G x pa sp ln rf sb u C9) (hd : z_dj C9 B) (ho : B ou = some (cOu on os)) (hok : s_ok t u) (pane a2 a3 : Int32) : z_Hi l G qL_putAt [(0, 13, 16, 19), (0, 13, 20, 21)] (z_rm 13 8 48) [.ref x, .int pane, .int a2, .int a3, .ref ou] (z_un C9 B) (w_P G x pa sp ln rf sb ou B (z_lt (z_is pane 0 5) (t_nn a3)) u (s_putAt u pane.toNatClampNeg a2 a3)) := by
  obtain ⟨P, RA, VA, hC⟩ := hC
  refine z_Hi_of _ rfl rfl (Nat.le_of_ble_eq_true rfl) (fun X hl hG C T ret => ?_)
  subst hl; subst hG
  have C : z_C X cL_putAt RL 6 (z_rm 13 8 48) := C
  show z_W X (z_un C9 B) 0 0 0 [(0, .ref x), (1, .int pane), (2, .int a2), (3, .int a3), (4, .ref ou)] []
  refine z_aload C dL_putAt_0 4 rfl ?_
  refine z_aload_n C dL_putAt_2 rfl 0 rfl ?_
  refine z_iload_n C dL_putAt_3 rfl 1 rfl ?_
  refine z_iload_n C dL_putAt_4 rfl 2 rfl ?_
  refine z_iload_n C dL_putAt_5 rfl 3 rfl ?_
  refine z_callXVi (rest := [.ref ou]) (k' := 8) (n' := 48) C (z_Xi_fr hd (a_X3_putAt (z_l X) h_st hC hok pane a2 a3)) (cs_L_74 C ⟨Nat.le_of_ble_eq_true rfl, Nat.le_of_ble_eq_true rfl⟩) (z_un_l hC.1) rfl rfl rfl rfl (Nat.le_of_ble_eq_true rfl) rfl rfl (Nat.le_of_ble_eq_true rfl) (Nat.le_of_ble_eq_true rfl) dL_putAt_6 (fun E9 M9 hq => ?_) (fun x9 M9 hq => ?_)
  · obtain ⟨A9, ⟨hcx, hC9⟩, hd9, rfl⟩ := hq
    rcases hcx with ⟨hk9, rfl⟩ | ⟨hk9, rfl⟩
    · refine z_catch C T [] ⟨0, 13, 16, 19⟩ _ rfl (fun z hz => absurd hz List.not_mem_nil) rfl (by decide) kw693 (z_cI C) (fun qx => ?_)
      show z_W X (z_un A9 B) 8 48 16 [(0, .ref x), (1, .int pane), (2, .int a2), (3, .int a3), (4, .ref ou)] [.ref qx]
      refine z_astore (lv' := [(5, .ref qx), (0, .ref x), (1, .int pane), (2, .int a2), (3, .int a3), (4, .ref ou)]) C dL_putAt_16 (by decide) rfl ?_
      refine z_iconst C (v := 1) dL_putAt_18 (by decide) ?_
      refine ret dL_putAt_19 rfl ?_ (Nat.le_of_ble_eq_true rfl) (Nat.le_of_ble_eq_true rfl)
      exact w_th hC9 hd9 ho hk9 (by decide)
    · refine z_catch C T [⟨0, 13, 16, 19⟩] ⟨0, 13, 20, 21⟩ _ rfl (fun z hz => by rw [List.mem_singleton.mp hz]; exact Or.inr ⟨by decide, _, kw693, z_pasA C⟩) rfl (by decide) kw694 (z_cA C) (fun qx => ?_)
      show z_W X (z_un A9 B) 8 48 20 [(0, .ref x), (1, .int pane), (2, .int a2), (3, .int a3), (4, .ref ou)] [.ref qx]
      refine z_astore (lv' := [(5, .ref qx), (0, .ref x), (1, .int pane), (2, .int a2), (3, .int a3), (4, .ref ou)]) C dL_putAt_20 (by decide) rfl ?_
      refine z_iconst C (v := 2) dL_putAt_22 (by decide) ?_
      refine ret dL_putAt_23 rfl ?_ (Nat.le_of_ble_eq_true rfl) (Nat.le_of_ble_eq_true rfl)
      exact w_th hC9 hd9 ho hk9 (by decide)
  · obtain ⟨A9, ⟨hk9, hr9, hC9⟩, hd9, rfl⟩ := hq
    refine z_i2l C dL_putAt_9 ?_
    refine pf_L_13 C (z_un_r hd9 ho) dL_putAt_10 ?_
    refine z_goto C (tgt := 24) dL_putAt_13 (by decide) ?_
    refine z_iconst C (v := 0) dL_putAt_24 (by decide) ?_
    refine ret dL_putAt_25 rfl ?_ (Nat.le_of_ble_eq_true rfl) (Nat.le_of_ble_eq_true rfl)
    exact w_ok hC9 hd9 ho hk9 hr9
set_option maxRecDepth 20000 in
theorem w_bring (l : Launch) (h_st : l.stackTraces = false) {G : zG} {u : sS} {x pa sp ln rf sb ou t : Nat} {C9 B : zM} {on : Int64} {os : Option Nat} (hC : s_CI G x pa sp ln rf sb u C9) (hd : z_dj C9 B) (ho : B ou = some (cOu on os)) (hok : s_ok t u) (pane a2 other a4 : Int32) : z_Hi l G qL_bring [(0, 15, 18, 19)] (z_rm 13 8 48) [.ref x, .int pane, .int a2, .int other, .int a4, .ref ou] (z_un C9 B) (w_P G x pa sp ln rf sb ou B (z_lt (t_2 pane other) 1) u (s_bring u pane.toNatClampNeg other.toNatClampNeg a2 a4)) := by
  obtain ⟨P, RA, VA, hC⟩ := hC
  refine z_Hi_of _ rfl rfl (Nat.le_of_ble_eq_true rfl) (fun X hl hG C T ret => ?_)
  subst hl; subst hG
  have C : z_C X cL_bring RL 7 (z_rm 13 8 48) := C
  show z_W X (z_un C9 B) 0 0 0 [(0, .ref x), (1, .int pane), (2, .int a2), (3, .int other), (4, .int a4), (5, .ref ou)] []
  refine z_aload C dL_bring_0 5 rfl ?_
  refine z_aload_n C dL_bring_2 rfl 0 rfl ?_
  refine z_iload_n C dL_bring_3 rfl 1 rfl ?_
  refine z_iload_n C dL_bring_4 rfl 2 rfl ?_
  refine z_iload_n C dL_bring_5 rfl 3 rfl ?_
  refine z_iload C dL_bring_6 4 rfl ?_
  refine z_callXVi (rest := [.ref ou]) (k' := 8) (n' := 48) C (z_Xi_fr hd (a_X3_bring (z_l X) h_st hC hok pane a2 other a4)) (cs_L_77 C ⟨Nat.le_of_ble_eq_true rfl, Nat.le_of_ble_eq_true rfl⟩) (z_un_l hC.1) rfl rfl rfl rfl (Nat.le_of_ble_eq_true rfl) rfl rfl (Nat.le_of_ble_eq_true rfl) (Nat.le_of_ble_eq_true rfl) dL_bring_8 (fun E9 M9 hq => ?_) (fun x9 M9 hq => ?_)
  · obtain ⟨A9, ⟨hcx, hC9⟩, hd9, rfl⟩ := hq
    rcases hcx with ⟨hk9, rfl⟩ | ⟨hk9, rfl⟩
    · refine z_catch C T [] ⟨0, 15, 18, 19⟩ _ rfl (fun z hz => absurd hz List.not_mem_nil) rfl (by decide) kw693 (z_cI C) (fun qx => ?_)
      show z_W X (z_un A9 B) 8 48 18 [(0, .ref x), (1, .int pane), (2, .int a2), (3, .int other), (4, .int a4), (5, .ref ou)] [.ref qx]
      refine z_astore (lv' := [(6, .ref qx), (0, .ref x), (1, .int pane), (2, .int a2), (3, .int other), (4, .int a4), (5, .ref ou)]) C dL_bring_18 (by decide) rfl ?_
      refine z_iconst C (v := 1) dL_bring_20 (by decide) ?_
      refine ret dL_bring_21 rfl ?_ (Nat.le_of_ble_eq_true rfl) (Nat.le_of_ble_eq_true rfl)
      exact w_th hC9 hd9 ho hk9 (by decide)
    · exact absurd hk9 z_lt1
  · obtain ⟨A9, ⟨hk9, hr9, hC9⟩, hd9, rfl⟩ := hq
    refine z_i2l C dL_bring_11 ?_
    refine pf_L_13 C (z_un_r hd9 ho) dL_bring_12 ?_
    refine z_goto C (tgt := 22) dL_bring_15 (by decide) ?_
    refine z_iconst C (v := 0) dL_bring_22 (by decide) ?_
    refine ret dL_bring_23 rfl ?_ (Nat.le_of_ble_eq_true rfl) (Nat.le_of_ble_eq_true rfl)
    exact w_ok hC9 hd9 ho hk9 hr9
set_option maxRecDepth 20000 in
theorem w_fill (l : Launch) (h_st : l.stackTraces = false) {G : zG} {u : sS} {x pa sp ln rf sb ou t : Nat} {C9 B : zM} {on : Int64} {os : Option Nat} (hC : s_CI G x pa sp ln rf sb u C9) (hd : z_dj C9 B) (ho : B ou = some (cOu on os)) (hok : s_ok t u) (pane a2 a3 a4 : Int32) : z_Hi l G qL_fill [(0, 15, 18, 19), (0, 15, 22, 21)] (z_rm 13 8 48) [.ref x, .int pane, .int a2, .int a3, .int a4, .ref ou] (z_un C9 B) (w_P G x pa sp ln rf sb ou B (z_lt (z_is pane 0 5) (t_and (z_is a2 0 1000000) (t_and (z_is a3 0 1000000) (z_is a4 0 20)))) u (s_fill u pane.toNatClampNeg a2 a3 a4)) := by
  obtain ⟨P, RA, VA, hC⟩ := hC
  refine z_Hi_of _ rfl rfl (Nat.le_of_ble_eq_true rfl) (fun X hl hG C T ret => ?_)
  subst hl; subst hG
  have C : z_C X cL_fill RL 7 (z_rm 13 8 48) := C
  show z_W X (z_un C9 B) 0 0 0 [(0, .ref x), (1, .int pane), (2, .int a2), (3, .int a3), (4, .int a4), (5, .ref ou)] []
  refine z_aload C dL_fill_0 5 rfl ?_
  refine z_aload_n C dL_fill_2 rfl 0 rfl ?_
  refine z_iload_n C dL_fill_3 rfl 1 rfl ?_
  refine z_iload_n C dL_fill_4 rfl 2 rfl ?_
  refine z_iload_n C dL_fill_5 rfl 3 rfl ?_
  refine z_iload C dL_fill_6 4 rfl ?_
  refine z_callXVi (rest := [.ref ou]) (k' := 8) (n' := 48) C (z_Xi_fr hd (a_X3_fill (z_l X) h_st hC hok pane a2 a3 a4)) (cs_L_80 C ⟨Nat.le_of_ble_eq_true rfl, Nat.le_of_ble_eq_true rfl⟩) (z_un_l hC.1) rfl rfl rfl rfl (Nat.le_of_ble_eq_true rfl) rfl rfl (Nat.le_of_ble_eq_true rfl) (Nat.le_of_ble_eq_true rfl) dL_fill_8 (fun E9 M9 hq => ?_) (fun x9 M9 hq => ?_)
  · obtain ⟨A9, ⟨hcx, hC9⟩, hd9, rfl⟩ := hq
    rcases hcx with ⟨hk9, rfl⟩ | ⟨hk9, rfl⟩
    · refine z_catch C T [] ⟨0, 15, 18, 19⟩ _ rfl (fun z hz => absurd hz List.not_mem_nil) rfl (by decide) kw693 (z_cI C) (fun qx => ?_)
      show z_W X (z_un A9 B) 8 48 18 [(0, .ref x), (1, .int pane), (2, .int a2), (3, .int a3), (4, .int a4), (5, .ref ou)] [.ref qx]
      refine z_astore (lv' := [(6, .ref qx), (0, .ref x), (1, .int pane), (2, .int a2), (3, .int a3), (4, .int a4), (5, .ref ou)]) C dL_fill_18 (by decide) rfl ?_
      refine z_iconst C (v := 1) dL_fill_20 (by decide) ?_
      refine ret dL_fill_21 rfl ?_ (Nat.le_of_ble_eq_true rfl) (Nat.le_of_ble_eq_true rfl)
      exact w_th hC9 hd9 ho hk9 (by decide)
    · refine z_catch C T [⟨0, 15, 18, 19⟩] ⟨0, 15, 22, 21⟩ _ rfl (fun z hz => by rw [List.mem_singleton.mp hz]; exact Or.inr ⟨by decide, _, kw693, z_pasA C⟩) rfl (by decide) kw694 (z_cA C) (fun qx => ?_)
      show z_W X (z_un A9 B) 8 48 22 [(0, .ref x), (1, .int pane), (2, .int a2), (3, .int a3), (4, .int a4), (5, .ref ou)] [.ref qx]
      refine z_astore (lv' := [(6, .ref qx), (0, .ref x), (1, .int pane), (2, .int a2), (3, .int a3), (4, .int a4), (5, .ref ou)]) C dL_fill_22 (by decide) rfl ?_
      refine z_iconst C (v := 2) dL_fill_24 (by decide) ?_
      refine ret dL_fill_25 rfl ?_ (Nat.le_of_ble_eq_true rfl) (Nat.le_of_ble_eq_true rfl)
      exact w_th hC9 hd9 ho hk9 (by decide)
  · obtain ⟨A9, ⟨hk9, hr9, hC9⟩, hd9, rfl⟩ := hq
    refine z_i2l C dL_fill_11 ?_
    refine pf_L_13 C (z_un_r hd9 ho) dL_fill_12 ?_
    refine z_goto C (tgt := 26) dL_fill_15 (by decide) ?_
    refine z_iconst C (v := 0) dL_fill_26 (by decide) ?_
    refine ret dL_fill_27 rfl ?_ (Nat.le_of_ble_eq_true rfl) (Nat.le_of_ble_eq_true rfl)
    exact w_ok hC9 hd9 ho hk9 hr9
set_option maxRecDepth 20000 in
theorem w_pack (l : Launch) (h_st : l.stackTraces = false) {G : zG} {u : sS} {x pa sp ln rf sb ou t : Nat} {C9 B : zM} {on : Int64} {os : Option Nat} (hC : s_CI G x pa sp ln rf sb u C9) (hd : z_dj C9 B) (ho : B ou = some (cOu on os)) (hok : s_ok t u) (pane : Int32) : z_Hi l G qL_pack [(0, 10, 13, 19)] (z_rm 13 8 48) [.ref x, .int pane, .ref ou] (z_un C9 B) (w_P G x pa sp ln rf sb ou B (z_lt (z_is pane 0 5) 1) u (s_pack u pane.toNatClampNeg)) := by
  obtain ⟨P, RA, VA, hC⟩ := hC
  refine z_Hi_of _ rfl rfl (Nat.le_of_ble_eq_true rfl) (fun X hl hG C T ret => ?_)
  subst hl; subst hG
  have C : z_C X cL_pack RL 4 (z_rm 13 8 48) := C
  show z_W X (z_un C9 B) 0 0 0 [(0, .ref x), (1, .int pane), (2, .ref ou)] []
  refine z_aload_n C dL_pack_0 rfl 2 rfl ?_
  refine z_aload_n C dL_pack_1 rfl 0 rfl ?_
  refine z_iload_n C dL_pack_2 rfl 1 rfl ?_
  refine z_callXVi (rest := [.ref ou]) (k' := 8) (n' := 48) C (z_Xi_fr hd (a_X3_pack (z_l X) h_st hC hok pane)) (cs_L_83 C ⟨Nat.le_of_ble_eq_true rfl, Nat.le_of_ble_eq_true rfl⟩) (z_un_l hC.1) rfl rfl rfl rfl (Nat.le_of_ble_eq_true rfl) rfl rfl (Nat.le_of_ble_eq_true rfl) (Nat.le_of_ble_eq_true rfl) dL_pack_3 (fun E9 M9 hq => ?_) (fun x9 M9 hq => ?_)
  · obtain ⟨A9, ⟨hcx, hC9⟩, hd9, rfl⟩ := hq
    rcases hcx with ⟨hk9, rfl⟩ | ⟨hk9, rfl⟩
    · refine z_catch C T [] ⟨0, 10, 13, 19⟩ _ rfl (fun z hz => absurd hz List.not_mem_nil) rfl (by decide) kw693 (z_cI C) (fun qx => ?_)
      show z_W X (z_un A9 B) 8 48 13 [(0, .ref x), (1, .int pane), (2, .ref ou)] [.ref qx]
      refine z_astore_n (lv' := [(3, .ref qx), (0, .ref x), (1, .int pane), (2, .ref ou)]) C dL_pack_13 rfl (by decide) rfl ?_
      refine z_iconst C (v := 1) dL_pack_14 (by decide) ?_
      refine ret dL_pack_15 rfl ?_ (Nat.le_of_ble_eq_true rfl) (Nat.le_of_ble_eq_true rfl)
      exact w_th hC9 hd9 ho hk9 (by decide)
    · exact absurd hk9 z_lt1
  · obtain ⟨A9, ⟨hk9, hr9, hC9⟩, hd9, rfl⟩ := hq
    refine z_i2l C dL_pack_6 ?_
    refine pf_L_13 C (z_un_r hd9 ho) dL_pack_7 ?_
    refine z_goto C (tgt := 16) dL_pack_10 (by decide) ?_
    refine z_iconst C (v := 0) dL_pack_16 (by decide) ?_
    refine ret dL_pack_17 rfl ?_ (Nat.le_of_ble_eq_true rfl) (Nat.le_of_ble_eq_true rfl)
    exact w_ok hC9 hd9 ho hk9 hr9
set_option maxRecDepth 20000 in
theorem w_pour (l : Launch) (h_st : l.stackTraces = false) {G : zG} {u : sS} {x pa sp ln rf sb ou t : Nat} {C9 B : zM} {on : Int64} {os : Option Nat} (hC : s_CI G x pa sp ln rf sb u C9) (hd : z_dj C9 B) (ho : B ou = some (cOu on os)) (hok : s_ok t u) (pane other a3 : Int32) : z_Hi l G qL_pour [(0, 13, 16, 19), (0, 13, 20, 21)] (z_rm 13 8 48) [.ref x, .int pane, .int other, .int a3, .ref ou] (z_un C9 B) (w_P G x pa sp ln rf sb ou B (z_lt (t_2 pane other) (z_is a3 0 20)) u (s_pour u pane.toNatClampNeg other.toNatClampNeg a3)) := by
  obtain ⟨P, RA, VA, hC⟩ := hC
  refine z_Hi_of _ rfl rfl (Nat.le_of_ble_eq_true rfl) (fun X hl hG C T ret => ?_)
  subst hl; subst hG
  have C : z_C X cL_pour RL 6 (z_rm 13 8 48) := C
  show z_W X (z_un C9 B) 0 0 0 [(0, .ref x), (1, .int pane), (2, .int other), (3, .int a3), (4, .ref ou)] []
  refine z_aload C dL_pour_0 4 rfl ?_
  refine z_aload_n C dL_pour_2 rfl 0 rfl ?_
  refine z_iload_n C dL_pour_3 rfl 1 rfl ?_
  refine z_iload_n C dL_pour_4 rfl 2 rfl ?_
  refine z_iload_n C dL_pour_5 rfl 3 rfl ?_
  refine z_callXVi (rest := [.ref ou]) (k' := 8) (n' := 48) C (z_Xi_fr hd (a_X3_pour (z_l X) h_st hC hok pane other a3)) (cs_L_86 C ⟨Nat.le_of_ble_eq_true rfl, Nat.le_of_ble_eq_true rfl⟩) (z_un_l hC.1) rfl rfl rfl rfl (Nat.le_of_ble_eq_true rfl) rfl rfl (Nat.le_of_ble_eq_true rfl) (Nat.le_of_ble_eq_true rfl) dL_pour_6 (fun E9 M9 hq => ?_) (fun x9 M9 hq => ?_)
  · obtain ⟨A9, ⟨hcx, hC9⟩, hd9, rfl⟩ := hq
    rcases hcx with ⟨hk9, rfl⟩ | ⟨hk9, rfl⟩
    · refine z_catch C T [] ⟨0, 13, 16, 19⟩ _ rfl (fun z hz => absurd hz List.not_mem_nil) rfl (by decide) kw693 (z_cI C) (fun qx => ?_)
      show z_W X (z_un A9 B) 8 48 16 [(0, .ref x), (1, .int pane), (2, .int other), (3, .int a3), (4, .ref ou)] [.ref qx]
      refine z_astore (lv' := [(5, .ref qx), (0, .ref x), (1, .int pane), (2, .int other), (3, .int a3), (4, .ref ou)]) C dL_pour_16 (by decide) rfl ?_
      refine z_iconst C (v := 1) dL_pour_18 (by decide) ?_
      refine ret dL_pour_19 rfl ?_ (Nat.le_of_ble_eq_true rfl) (Nat.le_of_ble_eq_true rfl)
      exact w_th hC9 hd9 ho hk9 (by decide)
    · refine z_catch C T [⟨0, 13, 16, 19⟩] ⟨0, 13, 20, 21⟩ _ rfl (fun z hz => by rw [List.mem_singleton.mp hz]; exact Or.inr ⟨by decide, _, kw693, z_pasA C⟩) rfl (by decide) kw694 (z_cA C) (fun qx => ?_)
      show z_W X (z_un A9 B) 8 48 20 [(0, .ref x), (1, .int pane), (2, .int other), (3, .int a3), (4, .ref ou)] [.ref qx]
      refine z_astore (lv' := [(5, .ref qx), (0, .ref x), (1, .int pane), (2, .int other), (3, .int a3), (4, .ref ou)]) C dL_pour_20 (by decide) rfl ?_
      refine z_iconst C (v := 2) dL_pour_22 (by decide) ?_
      refine ret dL_pour_23 rfl ?_ (Nat.le_of_ble_eq_true rfl) (Nat.le_of_ble_eq_true rfl)
      exact w_th hC9 hd9 ho hk9 (by decide)
  · obtain ⟨A9, ⟨hk9, hr9, hC9⟩, hd9, rfl⟩ := hq
    refine z_i2l C dL_pour_9 ?_
    refine pf_L_13 C (z_un_r hd9 ho) dL_pour_10 ?_
    refine z_goto C (tgt := 24) dL_pour_13 (by decide) ?_
    refine z_iconst C (v := 0) dL_pour_24 (by decide) ?_
    refine ret dL_pour_25 rfl ?_ (Nat.le_of_ble_eq_true rfl) (Nat.le_of_ble_eq_true rfl)
    exact w_ok hC9 hd9 ho hk9 hr9
set_option maxRecDepth 20000 in
theorem w_lay (l : Launch) (h_st : l.stackTraces = false) {G : zG} {u : sS} {x pa sp ln rf sb ou t : Nat} {C9 B : zM} {on : Int64} {os : Option Nat} (hC : s_CI G x pa sp ln rf sb u C9) (hd : z_dj C9 B) (ho : B ou = some (cOu on os)) (hok : s_ok t u) (a1 a2 : Int32) : z_Hi l G qL_lay [(0, 11, 14, 19), (0, 11, 18, 21)] (z_rm 13 8 48) [.ref x, .int a1, .int a2, .ref ou] (z_un C9 B) (w_P G x pa sp ln rf sb ou B (z_lt (z_is a1 0 15) (t_nn a2)) u (s_lay u a1 a2)) := by
  obtain ⟨P, RA, VA, hC⟩ := hC
  refine z_Hi_of _ rfl rfl (Nat.le_of_ble_eq_true rfl) (fun X hl hG C T ret => ?_)
  subst hl; subst hG
  have C : z_C X cL_lay RL 5 (z_rm 13 8 48) := C
  show z_W X (z_un C9 B) 0 0 0 [(0, .ref x), (1, .int a1), (2, .int a2), (3, .ref ou)] []
  refine z_aload_n C dL_lay_0 rfl 3 rfl ?_
  refine z_aload_n C dL_lay_1 rfl 0 rfl ?_
  refine z_iload_n C dL_lay_2 rfl 1 rfl ?_
  refine z_iload_n C dL_lay_3 rfl 2 rfl ?_
  refine z_callXVi (rest := [.ref ou]) (k' := 8) (n' := 48) C (z_Xi_fr hd (a_X3_lay (z_l X) h_st hC hok a1 a2)) (cs_L_89 C ⟨Nat.le_of_ble_eq_true rfl, Nat.le_of_ble_eq_true rfl⟩) (z_un_l hC.1) rfl rfl rfl rfl (Nat.le_of_ble_eq_true rfl) rfl rfl (Nat.le_of_ble_eq_true rfl) (Nat.le_of_ble_eq_true rfl) dL_lay_4 (fun E9 M9 hq => ?_) (fun x9 M9 hq => ?_)
  · obtain ⟨A9, ⟨hcx, hC9⟩, hd9, rfl⟩ := hq
    rcases hcx with ⟨hk9, rfl⟩ | ⟨hk9, rfl⟩
    · refine z_catch C T [] ⟨0, 11, 14, 19⟩ _ rfl (fun z hz => absurd hz List.not_mem_nil) rfl (by decide) kw693 (z_cI C) (fun qx => ?_)
      show z_W X (z_un A9 B) 8 48 14 [(0, .ref x), (1, .int a1), (2, .int a2), (3, .ref ou)] [.ref qx]
      refine z_astore (lv' := [(4, .ref qx), (0, .ref x), (1, .int a1), (2, .int a2), (3, .ref ou)]) C dL_lay_14 (by decide) rfl ?_
      refine z_iconst C (v := 1) dL_lay_16 (by decide) ?_
      refine ret dL_lay_17 rfl ?_ (Nat.le_of_ble_eq_true rfl) (Nat.le_of_ble_eq_true rfl)
      exact w_th hC9 hd9 ho hk9 (by decide)
    · refine z_catch C T [⟨0, 11, 14, 19⟩] ⟨0, 11, 18, 21⟩ _ rfl (fun z hz => by rw [List.mem_singleton.mp hz]; exact Or.inr ⟨by decide, _, kw693, z_pasA C⟩) rfl (by decide) kw694 (z_cA C) (fun qx => ?_)
      show z_W X (z_un A9 B) 8 48 18 [(0, .ref x), (1, .int a1), (2, .int a2), (3, .ref ou)] [.ref qx]
      refine z_astore (lv' := [(4, .ref qx), (0, .ref x), (1, .int a1), (2, .int a2), (3, .ref ou)]) C dL_lay_18 (by decide) rfl ?_
      refine z_iconst C (v := 2) dL_lay_20 (by decide) ?_
      refine ret dL_lay_21 rfl ?_ (Nat.le_of_ble_eq_true rfl) (Nat.le_of_ble_eq_true rfl)
      exact w_th hC9 hd9 ho hk9 (by decide)
  · obtain ⟨A9, ⟨hk9, hr9, hC9⟩, hd9, rfl⟩ := hq
    refine z_i2l C dL_lay_7 ?_
    refine pf_L_13 C (z_un_r hd9 ho) dL_lay_8 ?_
    refine z_goto C (tgt := 22) dL_lay_11 (by decide) ?_
    refine z_iconst C (v := 0) dL_lay_22 (by decide) ?_
    refine ret dL_lay_23 rfl ?_ (Nat.le_of_ble_eq_true rfl) (Nat.le_of_ble_eq_true rfl)
    exact w_ok hC9 hd9 ho hk9 hr9
set_option maxRecDepth 20000 in
theorem w_reach (l : Launch) (h_st : l.stackTraces = false) {G : zG} {u : sS} {x pa sp ln rf sb ou t : Nat} {C9 B : zM} {on : Int64} {os : Option Nat} (hC : s_CI G x pa sp ln rf sb u C9) (hd : z_dj C9 B) (ho : B ou = some (cOu on os)) (hok : s_ok t u) (pane a2 a3 : Int32) : z_Hi l G qL_reach [(0, 13, 16, 19), (0, 13, 20, 21)] (z_rm 13 8 48) [.ref x, .int pane, .int a2, .int a3, .ref ou] (z_un C9 B) (w_P G x pa sp ln rf sb ou B (z_lt (z_is pane 0 5) (t_nn a3)) u (s_reach u pane.toNatClampNeg a2 a3)) := by
  obtain ⟨P, RA, VA, hC⟩ := hC
  refine z_Hi_of _ rfl rfl (Nat.le_of_ble_eq_true rfl) (fun X hl hG C T ret => ?_)
  subst hl; subst hG
  have C : z_C X cL_reach RL 6 (z_rm 13 8 48) := C
  show z_W X (z_un C9 B) 0 0 0 [(0, .ref x), (1, .int pane), (2, .int a2), (3, .int a3), (4, .ref ou)] []
  refine z_aload C dL_reach_0 4 rfl ?_
  refine z_aload_n C dL_reach_2 rfl 0 rfl ?_
  refine z_iload_n C dL_reach_3 rfl 1 rfl ?_
  refine z_iload_n C dL_reach_4 rfl 2 rfl ?_
  refine z_iload_n C dL_reach_5 rfl 3 rfl ?_
  refine z_callXVi (rest := [.ref ou]) (k' := 8) (n' := 48) C (z_Xi_fr hd (a_X3_reach (z_l X) h_st hC hok pane a2 a3)) (cs_L_92 C ⟨Nat.le_of_ble_eq_true rfl, Nat.le_of_ble_eq_true rfl⟩) (z_un_l hC.1) rfl rfl rfl rfl (Nat.le_of_ble_eq_true rfl) rfl rfl (Nat.le_of_ble_eq_true rfl) (Nat.le_of_ble_eq_true rfl) dL_reach_6 (fun E9 M9 hq => ?_) (fun x9 M9 hq => ?_)
  · obtain ⟨A9, ⟨hcx, hC9⟩, hd9, rfl⟩ := hq
    rcases hcx with ⟨hk9, rfl⟩ | ⟨hk9, rfl⟩
    · refine z_catch C T [] ⟨0, 13, 16, 19⟩ _ rfl (fun z hz => absurd hz List.not_mem_nil) rfl (by decide) kw693 (z_cI C) (fun qx => ?_)
      show z_W X (z_un A9 B) 8 48 16 [(0, .ref x), (1, .int pane), (2, .int a2), (3, .int a3), (4, .ref ou)] [.ref qx]
      refine z_astore (lv' := [(5, .ref qx), (0, .ref x), (1, .int pane), (2, .int a2), (3, .int a3), (4, .ref ou)]) C dL_reach_16 (by decide) rfl ?_
      refine z_iconst C (v := 1) dL_reach_18 (by decide) ?_
      refine ret dL_reach_19 rfl ?_ (Nat.le_of_ble_eq_true rfl) (Nat.le_of_ble_eq_true rfl)
      exact w_th hC9 hd9 ho hk9 (by decide)
    · refine z_catch C T [⟨0, 13, 16, 19⟩] ⟨0, 13, 20, 21⟩ _ rfl (fun z hz => by rw [List.mem_singleton.mp hz]; exact Or.inr ⟨by decide, _, kw693, z_pasA C⟩) rfl (by decide) kw694 (z_cA C) (fun qx => ?_)
      show z_W X (z_un A9 B) 8 48 20 [(0, .ref x), (1, .int pane), (2, .int a2), (3, .int a3), (4, .ref ou)] [.ref qx]
      refine z_astore (lv' := [(5, .ref qx), (0, .ref x), (1, .int pane), (2, .int a2), (3, .int a3), (4, .ref ou)]) C dL_reach_20 (by decide) rfl ?_
      refine z_iconst C (v := 2) dL_reach_22 (by decide) ?_
      refine ret dL_reach_23 rfl ?_ (Nat.le_of_ble_eq_true rfl) (Nat.le_of_ble_eq_true rfl)
      exact w_th hC9 hd9 ho hk9 (by decide)
  · obtain ⟨A9, ⟨hk9, hr9, hC9⟩, hd9, rfl⟩ := hq
    refine z_i2l C dL_reach_9 ?_
    refine pf_L_13 C (z_un_r hd9 ho) dL_reach_10 ?_
    refine z_goto C (tgt := 24) dL_reach_13 (by decide) ?_
    refine z_iconst C (v := 0) dL_reach_24 (by decide) ?_
    refine ret dL_reach_25 rfl ?_ (Nat.le_of_ble_eq_true rfl) (Nat.le_of_ble_eq_true rfl)
    exact w_ok hC9 hd9 ho hk9 hr9
set_option maxRecDepth 20000 in
theorem w_get (l : Launch) (h_st : l.stackTraces = false) {G : zG} {u : sS} {x pa sp ln rf sb ou t : Nat} {C9 B : zM} {on : Int64} {os : Option Nat} (hC : s_CI G x pa sp ln rf sb u C9) (hd : z_dj C9 B) (ho : B ou = some (cOu on os)) (hok : s_ok t u) (pane : Int32) : z_Hi l G qL_get [(0, 10, 13, 19)] (z_rm 13 8 48) [.ref x, .int pane, .ref ou] (z_un C9 B) (w_P G x pa sp ln rf sb ou B (z_lt (z_is pane 0 5) 1) u (s_get u pane.toNatClampNeg)) := by
  obtain ⟨P, RA, VA, hC⟩ := hC
  refine z_Hi_of _ rfl rfl (Nat.le_of_ble_eq_true rfl) (fun X hl hG C T ret => ?_)
  subst hl; subst hG
  have C : z_C X cL_get RL 4 (z_rm 13 8 48) := C
  show z_W X (z_un C9 B) 0 0 0 [(0, .ref x), (1, .int pane), (2, .ref ou)] []
  refine z_aload_n C dL_get_0 rfl 2 rfl ?_
  refine z_aload_n C dL_get_1 rfl 0 rfl ?_
  refine z_iload_n C dL_get_2 rfl 1 rfl ?_
  refine z_callXVi (rest := [.ref ou]) (k' := 8) (n' := 48) C (z_Xi_fr hd (a_X3_get (z_l X) h_st hC hok pane)) (cs_L_95 C ⟨Nat.le_of_ble_eq_true rfl, Nat.le_of_ble_eq_true rfl⟩) (z_un_l hC.1) rfl rfl rfl rfl (Nat.le_of_ble_eq_true rfl) rfl rfl (Nat.le_of_ble_eq_true rfl) (Nat.le_of_ble_eq_true rfl) dL_get_3 (fun E9 M9 hq => ?_) (fun x9 M9 hq => ?_)
  · obtain ⟨A9, ⟨hcx, hC9⟩, hd9, rfl⟩ := hq
    rcases hcx with ⟨hk9, rfl⟩ | ⟨hk9, rfl⟩
    · refine z_catch C T [] ⟨0, 10, 13, 19⟩ _ rfl (fun z hz => absurd hz List.not_mem_nil) rfl (by decide) kw693 (z_cI C) (fun qx => ?_)
      show z_W X (z_un A9 B) 8 48 13 [(0, .ref x), (1, .int pane), (2, .ref ou)] [.ref qx]
      refine z_astore_n (lv' := [(3, .ref qx), (0, .ref x), (1, .int pane), (2, .ref ou)]) C dL_get_13 rfl (by decide) rfl ?_
      refine z_iconst C (v := 1) dL_get_14 (by decide) ?_
      refine ret dL_get_15 rfl ?_ (Nat.le_of_ble_eq_true rfl) (Nat.le_of_ble_eq_true rfl)
      exact w_th hC9 hd9 ho hk9 (by decide)
    · exact absurd hk9 z_lt1
  · obtain ⟨A9, ⟨hk9, hr9, hC9⟩, hd9, rfl⟩ := hq
    refine z_i2l C dL_get_6 ?_
    refine pf_L_13 C (z_un_r hd9 ho) dL_get_7 ?_
    refine z_goto C (tgt := 16) dL_get_10 (by decide) ?_
    refine z_iconst C (v := 0) dL_get_16 (by decide) ?_
    refine ret dL_get_17 rfl ?_ (Nat.le_of_ble_eq_true rfl) (Nat.le_of_ble_eq_true rfl)
    exact w_ok hC9 hd9 ho hk9 hr9
set_option maxRecDepth 20000 in
theorem w_drain (l : Launch) (h_st : l.stackTraces = false) {G : zG} {u : sS} {x pa sp ln rf sb ou t : Nat} {C9 B : zM} {on : Int64} {os : Option Nat} (hC : s_CI G x pa sp ln rf sb u C9) (hd : z_dj C9 B) (ho : B ou = some (cOu on os)) (hok : s_ok t u) (pane a2 : Int32) : z_Hi l G qL_drain [(0, 11, 14, 19), (0, 11, 18, 21)] (z_rm 13 8 48) [.ref x, .int pane, .int a2, .ref ou] (z_un C9 B) (w_P G x pa sp ln rf sb ou B (z_lt (z_is pane 0 5) (z_is a2 0 20)) u (s_drain u pane.toNatClampNeg a2)) := by
  obtain ⟨P, RA, VA, hC⟩ := hC
  refine z_Hi_of _ rfl rfl (Nat.le_of_ble_eq_true rfl) (fun X hl hG C T ret => ?_)
  subst hl; subst hG
  have C : z_C X cL_drain RL 5 (z_rm 13 8 48) := C
  show z_W X (z_un C9 B) 0 0 0 [(0, .ref x), (1, .int pane), (2, .int a2), (3, .ref ou)] []
  refine z_aload_n C dL_drain_0 rfl 3 rfl ?_
  refine z_aload_n C dL_drain_1 rfl 0 rfl ?_
  refine z_iload_n C dL_drain_2 rfl 1 rfl ?_
  refine z_iload_n C dL_drain_3 rfl 2 rfl ?_
  refine z_callXVi (rest := [.ref ou]) (k' := 8) (n' := 48) C (z_Xi_fr hd (a_X3_drain (z_l X) h_st hC hok pane a2)) (cs_L_98 C ⟨Nat.le_of_ble_eq_true rfl, Nat.le_of_ble_eq_true rfl⟩) (z_un_l hC.1) rfl rfl rfl rfl (Nat.le_of_ble_eq_true rfl) rfl rfl (Nat.le_of_ble_eq_true rfl) (Nat.le_of_ble_eq_true rfl) dL_drain_4 (fun E9 M9 hq => ?_) (fun x9 M9 hq => ?_)
  · obtain ⟨A9, ⟨hcx, hC9⟩, hd9, rfl⟩ := hq
    rcases hcx with ⟨hk9, rfl⟩ | ⟨hk9, rfl⟩
    · refine z_catch C T [] ⟨0, 11, 14, 19⟩ _ rfl (fun z hz => absurd hz List.not_mem_nil) rfl (by decide) kw693 (z_cI C) (fun qx => ?_)
      show z_W X (z_un A9 B) 8 48 14 [(0, .ref x), (1, .int pane), (2, .int a2), (3, .ref ou)] [.ref qx]
      refine z_astore (lv' := [(4, .ref qx), (0, .ref x), (1, .int pane), (2, .int a2), (3, .ref ou)]) C dL_drain_14 (by decide) rfl ?_
      refine z_iconst C (v := 1) dL_drain_16 (by decide) ?_
      refine ret dL_drain_17 rfl ?_ (Nat.le_of_ble_eq_true rfl) (Nat.le_of_ble_eq_true rfl)
      exact w_th hC9 hd9 ho hk9 (by decide)
    · refine z_catch C T [⟨0, 11, 14, 19⟩] ⟨0, 11, 18, 21⟩ _ rfl (fun z hz => by rw [List.mem_singleton.mp hz]; exact Or.inr ⟨by decide, _, kw693, z_pasA C⟩) rfl (by decide) kw694 (z_cA C) (fun qx => ?_)
      show z_W X (z_un A9 B) 8 48 18 [(0, .ref x), (1, .int pane), (2, .int a2), (3, .ref ou)] [.ref qx]
      refine z_astore (lv' := [(4, .ref qx), (0, .ref x), (1, .int pane), (2, .int a2), (3, .ref ou)]) C dL_drain_18 (by decide) rfl ?_
      refine z_iconst C (v := 2) dL_drain_20 (by decide) ?_
      refine ret dL_drain_21 rfl ?_ (Nat.le_of_ble_eq_true rfl) (Nat.le_of_ble_eq_true rfl)
      exact w_th hC9 hd9 ho hk9 (by decide)
  · obtain ⟨A9, ⟨hk9, hr9, hC9⟩, hd9, rfl⟩ := hq
    refine z_i2l C dL_drain_7 ?_
    refine pf_L_13 C (z_un_r hd9 ho) dL_drain_8 ?_
    refine z_goto C (tgt := 22) dL_drain_11 (by decide) ?_
    refine z_iconst C (v := 0) dL_drain_22 (by decide) ?_
    refine ret dL_drain_23 rfl ?_ (Nat.le_of_ble_eq_true rfl) (Nat.le_of_ble_eq_true rfl)
    exact w_ok hC9 hd9 ho hk9 hr9
set_option maxRecDepth 20000 in
theorem w_pop (l : Launch) (h_st : l.stackTraces = false) {G : zG} {u : sS} {x pa sp ln rf sb ou t : Nat} {C9 B : zM} {on : Int64} {os : Option Nat} (hC : s_CI G x pa sp ln rf sb u C9) (hd : z_dj C9 B) (ho : B ou = some (cOu on os)) (hok : s_ok t u) (pane : Int32) : z_Hi l G qL_pop [(0, 10, 13, 19)] (z_rm 13 8 48) [.ref x, .int pane, .ref ou] (z_un C9 B) (w_P G x pa sp ln rf sb ou B (z_lt (z_is pane 0 5) 1) u (s_pop u pane.toNatClampNeg)) := by
  obtain ⟨P, RA, VA, hC⟩ := hC
  refine z_Hi_of _ rfl rfl (Nat.le_of_ble_eq_true rfl) (fun X hl hG C T ret => ?_)
  subst hl; subst hG
  have C : z_C X cL_pop RL 4 (z_rm 13 8 48) := C
  show z_W X (z_un C9 B) 0 0 0 [(0, .ref x), (1, .int pane), (2, .ref ou)] []
  refine z_aload_n C dL_pop_0 rfl 2 rfl ?_
  refine z_aload_n C dL_pop_1 rfl 0 rfl ?_
  refine z_iload_n C dL_pop_2 rfl 1 rfl ?_
  refine z_callXVi (rest := [.ref ou]) (k' := 8) (n' := 48) C (z_Xi_fr hd (a_X3_pop (z_l X) h_st hC hok pane)) (cs_L_101 C ⟨Nat.le_of_ble_eq_true rfl, Nat.le_of_ble_eq_true rfl⟩) (z_un_l hC.1) rfl rfl rfl rfl (Nat.le_of_ble_eq_true rfl) rfl rfl (Nat.le_of_ble_eq_true rfl) (Nat.le_of_ble_eq_true rfl) dL_pop_3 (fun E9 M9 hq => ?_) (fun x9 M9 hq => ?_)
  · obtain ⟨A9, ⟨hcx, hC9⟩, hd9, rfl⟩ := hq
    rcases hcx with ⟨hk9, rfl⟩ | ⟨hk9, rfl⟩
    · refine z_catch C T [] ⟨0, 10, 13, 19⟩ _ rfl (fun z hz => absurd hz List.not_mem_nil) rfl (by decide) kw693 (z_cI C) (fun qx => ?_)
      show z_W X (z_un A9 B) 8 48 13 [(0, .ref x), (1, .int pane), (2, .ref ou)] [.ref qx]
      refine z_astore_n (lv' := [(3, .ref qx), (0, .ref x), (1, .int pane), (2, .ref ou)]) C dL_pop_13 rfl (by decide) rfl ?_
      refine z_iconst C (v := 1) dL_pop_14 (by decide) ?_
      refine ret dL_pop_15 rfl ?_ (Nat.le_of_ble_eq_true rfl) (Nat.le_of_ble_eq_true rfl)
      exact w_th hC9 hd9 ho hk9 (by decide)
    · exact absurd hk9 z_lt1
  · obtain ⟨A9, ⟨hk9, hr9, hC9⟩, hd9, rfl⟩ := hq
    refine z_i2l C dL_pop_6 ?_
    refine pf_L_13 C (z_un_r hd9 ho) dL_pop_7 ?_
    refine z_goto C (tgt := 16) dL_pop_10 (by decide) ?_
    refine z_iconst C (v := 0) dL_pop_16 (by decide) ?_
    refine ret dL_pop_17 rfl ?_ (Nat.le_of_ble_eq_true rfl) (Nat.le_of_ble_eq_true rfl)
    exact w_ok hC9 hd9 ho hk9 hr9
set_option maxRecDepth 20000 in
theorem w_ofPane (l : Launch) (h_st : l.stackTraces = false) {G : zG} {u : sS} {x pa sp ln rf sb ou t : Nat} {C9 B : zM} {on : Int64} {os : Option Nat} (hC : s_CI G x pa sp ln rf sb u C9) (hd : z_dj C9 B) (ho : B ou = some (cOu on os)) (hok : s_ok t u) (pane a2 : Int32) : z_Hi l G qL_ofPane [(0, 11, 14, 19), (0, 11, 18, 21)] (z_rm 13 8 48) [.ref x, .int pane, .int a2, .ref ou] (z_un C9 B) (w_P G x pa sp ln rf sb ou B (z_lt (z_is pane 0 5) (z_is a2 0 9)) u ((s_of u pane.toNatClampNeg a2, u))) := by
  obtain ⟨P, RA, VA, hC⟩ := hC
  refine z_Hi_of _ rfl rfl (Nat.le_of_ble_eq_true rfl) (fun X hl hG C T ret => ?_)
  subst hl; subst hG
  have C : z_C X cL_ofPane RL 5 (z_rm 13 8 48) := C
  show z_W X (z_un C9 B) 0 0 0 [(0, .ref x), (1, .int pane), (2, .int a2), (3, .ref ou)] []
  refine z_aload_n C dL_ofPane_0 rfl 3 rfl ?_
  refine z_aload_n C dL_ofPane_1 rfl 0 rfl ?_
  refine z_iload_n C dL_ofPane_2 rfl 1 rfl ?_
  refine z_iload_n C dL_ofPane_3 rfl 2 rfl ?_
  refine z_callXVi (rest := [.ref ou]) (k' := 8) (n' := 48) C (z_Xi_fr hd (a_X3_ofPane (z_l X) h_st hC hok pane a2)) (cs_L_104 C ⟨Nat.le_of_ble_eq_true rfl, Nat.le_of_ble_eq_true rfl⟩) (z_un_l hC.1) rfl rfl rfl rfl (Nat.le_of_ble_eq_true rfl) rfl rfl (Nat.le_of_ble_eq_true rfl) (Nat.le_of_ble_eq_true rfl) dL_ofPane_4 (fun E9 M9 hq => ?_) (fun x9 M9 hq => ?_)
  · obtain ⟨A9, ⟨hcx, hC9⟩, hd9, rfl⟩ := hq
    rcases hcx with ⟨hk9, rfl⟩ | ⟨hk9, rfl⟩
    · refine z_catch C T [] ⟨0, 11, 14, 19⟩ _ rfl (fun z hz => absurd hz List.not_mem_nil) rfl (by decide) kw693 (z_cI C) (fun qx => ?_)
      show z_W X (z_un A9 B) 8 48 14 [(0, .ref x), (1, .int pane), (2, .int a2), (3, .ref ou)] [.ref qx]
      refine z_astore (lv' := [(4, .ref qx), (0, .ref x), (1, .int pane), (2, .int a2), (3, .ref ou)]) C dL_ofPane_14 (by decide) rfl ?_
      refine z_iconst C (v := 1) dL_ofPane_16 (by decide) ?_
      refine ret dL_ofPane_17 rfl ?_ (Nat.le_of_ble_eq_true rfl) (Nat.le_of_ble_eq_true rfl)
      exact w_th hC9 hd9 ho hk9 (by decide)
    · refine z_catch C T [⟨0, 11, 14, 19⟩] ⟨0, 11, 18, 21⟩ _ rfl (fun z hz => by rw [List.mem_singleton.mp hz]; exact Or.inr ⟨by decide, _, kw693, z_pasA C⟩) rfl (by decide) kw694 (z_cA C) (fun qx => ?_)
      show z_W X (z_un A9 B) 8 48 18 [(0, .ref x), (1, .int pane), (2, .int a2), (3, .ref ou)] [.ref qx]
      refine z_astore (lv' := [(4, .ref qx), (0, .ref x), (1, .int pane), (2, .int a2), (3, .ref ou)]) C dL_ofPane_18 (by decide) rfl ?_
      refine z_iconst C (v := 2) dL_ofPane_20 (by decide) ?_
      refine ret dL_ofPane_21 rfl ?_ (Nat.le_of_ble_eq_true rfl) (Nat.le_of_ble_eq_true rfl)
      exact w_th hC9 hd9 ho hk9 (by decide)
  · obtain ⟨A9, ⟨hk9, hr9, hC9⟩, hd9, rfl⟩ := hq
    refine z_i2l C dL_ofPane_7 ?_
    refine pf_L_13 C (z_un_r hd9 ho) dL_ofPane_8 ?_
    refine z_goto C (tgt := 22) dL_ofPane_11 (by decide) ?_
    refine z_iconst C (v := 0) dL_ofPane_22 (by decide) ?_
    refine ret dL_ofPane_23 rfl ?_ (Nat.le_of_ble_eq_true rfl) (Nat.le_of_ble_eq_true rfl)
    exact w_ok hC9 hd9 ho hk9 hr9
set_option maxRecDepth 20000 in
theorem w_at (l : Launch) (h_st : l.stackTraces = false) {G : zG} {u : sS} {x pa sp ln rf sb ou t : Nat} {C9 B : zM} {on : Int64} {os : Option Nat} (hC : s_CI G x pa sp ln rf sb u C9) (hd : z_dj C9 B) (ho : B ou = some (cOu on os)) (hok : s_ok t u) (pane a2 : Int32) : z_Hi l G qL_at [(0, 11, 14, 19)] (z_rm 13 8 48) [.ref x, .int pane, .int a2, .ref ou] (z_un C9 B) (w_P G x pa sp ln rf sb ou B (z_lt (z_is pane 0 5) 1) u ((s_at u pane.toNatClampNeg a2, u))) := by
  obtain ⟨P, RA, VA, hC⟩ := hC
  refine z_Hi_of _ rfl rfl (Nat.le_of_ble_eq_true rfl) (fun X hl hG C T ret => ?_)
  subst hl; subst hG
  have C : z_C X cL_at RL 5 (z_rm 13 8 48) := C
  show z_W X (z_un C9 B) 0 0 0 [(0, .ref x), (1, .int pane), (2, .int a2), (3, .ref ou)] []
  refine z_aload_n C dL_at_0 rfl 3 rfl ?_
  refine z_aload_n C dL_at_1 rfl 0 rfl ?_
  refine z_iload_n C dL_at_2 rfl 1 rfl ?_
  refine z_iload_n C dL_at_3 rfl 2 rfl ?_
  refine z_callXVi (rest := [.ref ou]) (k' := 8) (n' := 48) C (z_Xi_fr hd (a_X3_at (z_l X) h_st hC hok pane a2)) (cs_L_107 C ⟨Nat.le_of_ble_eq_true rfl, Nat.le_of_ble_eq_true rfl⟩) (z_un_l hC.1) rfl rfl rfl rfl (Nat.le_of_ble_eq_true rfl) rfl rfl (Nat.le_of_ble_eq_true rfl) (Nat.le_of_ble_eq_true rfl) dL_at_4 (fun E9 M9 hq => ?_) (fun x9 M9 hq => ?_)
  · obtain ⟨A9, ⟨hcx, hC9⟩, hd9, rfl⟩ := hq
    rcases hcx with ⟨hk9, rfl⟩ | ⟨hk9, rfl⟩
    · refine z_catch C T [] ⟨0, 11, 14, 19⟩ _ rfl (fun z hz => absurd hz List.not_mem_nil) rfl (by decide) kw693 (z_cI C) (fun qx => ?_)
      show z_W X (z_un A9 B) 8 48 14 [(0, .ref x), (1, .int pane), (2, .int a2), (3, .ref ou)] [.ref qx]
      refine z_astore (lv' := [(4, .ref qx), (0, .ref x), (1, .int pane), (2, .int a2), (3, .ref ou)]) C dL_at_14 (by decide) rfl ?_
      refine z_iconst C (v := 1) dL_at_16 (by decide) ?_
      refine ret dL_at_17 rfl ?_ (Nat.le_of_ble_eq_true rfl) (Nat.le_of_ble_eq_true rfl)
      exact w_th hC9 hd9 ho hk9 (by decide)
    · exact absurd hk9 z_lt1
  · obtain ⟨A9, ⟨hk9, hr9, hC9⟩, hd9, rfl⟩ := hq
    refine z_i2l C dL_at_7 ?_
    refine pf_L_13 C (z_un_r hd9 ho) dL_at_8 ?_
    refine z_goto C (tgt := 18) dL_at_11 (by decide) ?_
    refine z_iconst C (v := 0) dL_at_18 (by decide) ?_
    refine ret dL_at_19 rfl ?_ (Nat.le_of_ble_eq_true rfl) (Nat.le_of_ble_eq_true rfl)
    exact w_ok hC9 hd9 ho hk9 hr9
set_option maxRecDepth 20000 in
theorem w_peek (l : Launch) (h_st : l.stackTraces = false) {G : zG} {u : sS} {x pa sp ln rf sb ou t : Nat} {C9 B : zM} {on : Int64} {os : Option Nat} (hC : s_CI G x pa sp ln rf sb u C9) (hd : z_dj C9 B) (ho : B ou = some (cOu on os)) (hok : s_ok t u) (pane : Int32) : z_Hi l G qL_peek [(0, 10, 13, 19)] (z_rm 13 8 48) [.ref x, .int pane, .ref ou] (z_un C9 B) (w_P G x pa sp ln rf sb ou B (z_lt (z_is pane 0 5) 1) u ((s_peek u pane.toNatClampNeg, u))) := by
  obtain ⟨P, RA, VA, hC⟩ := hC
  refine z_Hi_of _ rfl rfl (Nat.le_of_ble_eq_true rfl) (fun X hl hG C T ret => ?_)
  subst hl; subst hG
  have C : z_C X cL_peek RL 4 (z_rm 13 8 48) := C
  show z_W X (z_un C9 B) 0 0 0 [(0, .ref x), (1, .int pane), (2, .ref ou)] []
  refine z_aload_n C dL_peek_0 rfl 2 rfl ?_
  refine z_aload_n C dL_peek_1 rfl 0 rfl ?_
  refine z_iload_n C dL_peek_2 rfl 1 rfl ?_
  refine z_callXVi (rest := [.ref ou]) (k' := 8) (n' := 48) C (z_Xi_fr hd (a_X3_peek (z_l X) h_st hC hok pane)) (cs_L_110 C ⟨Nat.le_of_ble_eq_true rfl, Nat.le_of_ble_eq_true rfl⟩) (z_un_l hC.1) rfl rfl rfl rfl (Nat.le_of_ble_eq_true rfl) rfl rfl (Nat.le_of_ble_eq_true rfl) (Nat.le_of_ble_eq_true rfl) dL_peek_3 (fun E9 M9 hq => ?_) (fun x9 M9 hq => ?_)
  · obtain ⟨A9, ⟨hcx, hC9⟩, hd9, rfl⟩ := hq
    rcases hcx with ⟨hk9, rfl⟩ | ⟨hk9, rfl⟩
    · refine z_catch C T [] ⟨0, 10, 13, 19⟩ _ rfl (fun z hz => absurd hz List.not_mem_nil) rfl (by decide) kw693 (z_cI C) (fun qx => ?_)
      show z_W X (z_un A9 B) 8 48 13 [(0, .ref x), (1, .int pane), (2, .ref ou)] [.ref qx]
      refine z_astore_n (lv' := [(3, .ref qx), (0, .ref x), (1, .int pane), (2, .ref ou)]) C dL_peek_13 rfl (by decide) rfl ?_
      refine z_iconst C (v := 1) dL_peek_14 (by decide) ?_
      refine ret dL_peek_15 rfl ?_ (Nat.le_of_ble_eq_true rfl) (Nat.le_of_ble_eq_true rfl)
      exact w_th hC9 hd9 ho hk9 (by decide)
    · exact absurd hk9 z_lt1
  · obtain ⟨A9, ⟨hk9, hr9, hC9⟩, hd9, rfl⟩ := hq
    refine z_i2l C dL_peek_6 ?_
    refine pf_L_13 C (z_un_r hd9 ho) dL_peek_7 ?_
    refine z_goto C (tgt := 16) dL_peek_10 (by decide) ?_
    refine z_iconst C (v := 0) dL_peek_16 (by decide) ?_
    refine ret dL_peek_17 rfl ?_ (Nat.le_of_ble_eq_true rfl) (Nat.le_of_ble_eq_true rfl)
    exact w_ok hC9 hd9 ho hk9 hr9
set_option maxRecDepth 20000 in
theorem w_total (l : Launch) (h_st : l.stackTraces = false) {G : zG} {u : sS} {x pa sp ln rf sb ou t : Nat} {C9 B : zM} {on : Int64} {os : Option Nat} (hC : s_CI G x pa sp ln rf sb u C9) (hd : z_dj C9 B) (ho : B ou = some (cOu on os)) (hok : s_ok t u) (pane : Int32) : z_Hi l G qL_total [(0, 9, 12, 19)] (z_rm 13 40 1500) [.ref x, .int pane, .ref ou] (z_un C9 B) (w_T G x pa sp ln rf sb ou B (z_lt (z_is pane 0 5) 1) u) := by
  obtain ⟨P, RA, VA, hC⟩ := hC
  refine z_Hi_of _ rfl rfl (Nat.le_of_ble_eq_true rfl) (fun X hl hG C T ret => ?_)
  subst hl; subst hG
  have C : z_C X cL_total RL 4 (z_rm 13 40 1500) := C
  show z_W X (z_un C9 B) 0 0 0 [(0, .ref x), (1, .int pane), (2, .ref ou)] []
  refine z_aload_n C dL_total_0 rfl 2 rfl ?_
  refine z_aload_n C dL_total_1 rfl 0 rfl ?_
  refine z_iload_n C dL_total_2 rfl 1 rfl ?_
  refine z_callXVr (rest := [.ref ou]) (k' := 40) (n' := 1500) C (z_Xr_fr hd (a_X3_total (z_l X) h_st hC hok pane)) (cs_L_113 C ⟨Nat.le_of_ble_eq_true rfl, Nat.le_of_ble_eq_true rfl⟩) (z_un_l hC.1) rfl rfl rfl rfl (Nat.le_of_ble_eq_true rfl) rfl rfl (Nat.le_of_ble_eq_true rfl) (Nat.le_of_ble_eq_true rfl) dL_total_3 (fun E9 M9 hq => ?_) (fun x9 M9 hq => ?_)
  · obtain ⟨A9, ⟨hcx, hC9⟩, hd9, rfl⟩ := hq
    rcases hcx with ⟨hk9, rfl⟩ | ⟨hk9, rfl⟩
    · refine z_catch C T [] ⟨0, 9, 12, 19⟩ _ rfl (fun z hz => absurd hz List.not_mem_nil) rfl (by decide) kw693 (z_cI C) (fun qx => ?_)
      show z_W X (z_un A9 B) 40 1500 12 [(0, .ref x), (1, .int pane), (2, .ref ou)] [.ref qx]
      refine z_astore_n (lv' := [(3, .ref qx), (0, .ref x), (1, .int pane), (2, .ref ou)]) C dL_total_12 rfl (by decide) rfl ?_
      refine z_iconst C (v := 1) dL_total_13 (by decide) ?_
      refine ret dL_total_14 rfl ?_ (Nat.le_of_ble_eq_true rfl) (Nat.le_of_ble_eq_true rfl)
      exact w_thT hC9 hd9 ho hk9
    · exact absurd hk9 z_lt1
  · obtain ⟨A9, ⟨hk9, hC9⟩, hd9, rfl⟩ := hq
    refine pf_L_117 (xx := (some x9)) C (z_un_r hd9 ho) dL_total_6 ?_
    refine z_goto C (tgt := 15) dL_total_9 (by decide) ?_
    refine z_iconst C (v := 0) dL_total_15 (by decide) ?_
    refine ret dL_total_16 rfl ?_ (Nat.le_of_ble_eq_true rfl) (Nat.le_of_ble_eq_true rfl)
    exact w_okT hC9 hd9 ho hk9
set_option maxRecDepth 20000 in
theorem w_text (l : Launch) (h_st : l.stackTraces = false) {G : zG} {u : sS} {x pa sp ln rf sb ou t : Nat} {C9 B : zM} {on : Int64} {os : Option Nat} (hC : s_CI G x pa sp ln rf sb u C9) (hd : z_dj C9 B) (ho : B ou = some (cOu on os)) (hok : s_ok t u) (pane : Int32) : z_Hi l G qL_text [(0, 9, 12, 19)] (z_rm 13 40 1500) [.ref x, .int pane, .ref ou] (z_un C9 B) (w_T G x pa sp ln rf sb ou B (z_lt (z_is pane 0 5) 1) u) := by
  obtain ⟨P, RA, VA, hC⟩ := hC
  refine z_Hi_of _ rfl rfl (Nat.le_of_ble_eq_true rfl) (fun X hl hG C T ret => ?_)
  subst hl; subst hG
  have C : z_C X cL_text RL 4 (z_rm 13 40 1500) := C
  show z_W X (z_un C9 B) 0 0 0 [(0, .ref x), (1, .int pane), (2, .ref ou)] []
  refine z_aload_n C dL_text_0 rfl 2 rfl ?_
  refine z_aload_n C dL_text_1 rfl 0 rfl ?_
  refine z_iload_n C dL_text_2 rfl 1 rfl ?_
  refine z_callXVr (rest := [.ref ou]) (k' := 40) (n' := 1500) C (z_Xr_fr hd (a_X3_text (z_l X) h_st hC hok pane)) (cs_L_121 C ⟨Nat.le_of_ble_eq_true rfl, Nat.le_of_ble_eq_true rfl⟩) (z_un_l hC.1) rfl rfl rfl rfl (Nat.le_of_ble_eq_true rfl) rfl rfl (Nat.le_of_ble_eq_true rfl) (Nat.le_of_ble_eq_true rfl) dL_text_3 (fun E9 M9 hq => ?_) (fun x9 M9 hq => ?_)
  · obtain ⟨A9, ⟨hcx, hC9⟩, hd9, rfl⟩ := hq
    rcases hcx with ⟨hk9, rfl⟩ | ⟨hk9, rfl⟩
    · refine z_catch C T [] ⟨0, 9, 12, 19⟩ _ rfl (fun z hz => absurd hz List.not_mem_nil) rfl (by decide) kw693 (z_cI C) (fun qx => ?_)
      show z_W X (z_un A9 B) 40 1500 12 [(0, .ref x), (1, .int pane), (2, .ref ou)] [.ref qx]
      refine z_astore_n (lv' := [(3, .ref qx), (0, .ref x), (1, .int pane), (2, .ref ou)]) C dL_text_12 rfl (by decide) rfl ?_
      refine z_iconst C (v := 1) dL_text_13 (by decide) ?_
      refine ret dL_text_14 rfl ?_ (Nat.le_of_ble_eq_true rfl) (Nat.le_of_ble_eq_true rfl)
      exact w_thT hC9 hd9 ho hk9
    · exact absurd hk9 z_lt1
  · obtain ⟨A9, ⟨hk9, hC9⟩, hd9, rfl⟩ := hq
    refine pf_L_117 (xx := (some x9)) C (z_un_r hd9 ho) dL_text_6 ?_
    refine z_goto C (tgt := 15) dL_text_9 (by decide) ?_
    refine z_iconst C (v := 0) dL_text_15 (by decide) ?_
    refine ret dL_text_16 rfl ?_ (Nat.le_of_ble_eq_true rfl) (Nat.le_of_ble_eq_true rfl)
    exact w_okT hC9 hd9 ho hk9
set_option maxRecDepth 20000 in
theorem w_whole (l : Launch) (h_st : l.stackTraces = false) {G : zG} {u : sS} {x pa sp ln rf sb ou t : Nat} {C9 B : zM} {on : Int64} {os : Option Nat} (hC : s_CI G x pa sp ln rf sb u C9) (hd : z_dj C9 B) (ho : B ou = some (cOu on os)) (hok : s_ok t u) (pane : Int32) : z_Hi l G qL_whole [(0, 9, 12, 19)] (z_rm 13 40 1500) [.ref x, .int pane, .ref ou] (z_un C9 B) (w_T G x pa sp ln rf sb ou B (z_lt (z_is pane 0 5) 1) u) := by
  obtain ⟨P, RA, VA, hC⟩ := hC
  refine z_Hi_of _ rfl rfl (Nat.le_of_ble_eq_true rfl) (fun X hl hG C T ret => ?_)
  subst hl; subst hG
  have C : z_C X cL_whole RL 4 (z_rm 13 40 1500) := C
  show z_W X (z_un C9 B) 0 0 0 [(0, .ref x), (1, .int pane), (2, .ref ou)] []
  refine z_aload_n C dL_whole_0 rfl 2 rfl ?_
  refine z_aload_n C dL_whole_1 rfl 0 rfl ?_
  refine z_iload_n C dL_whole_2 rfl 1 rfl ?_
  refine z_callXVr (rest := [.ref ou]) (k' := 40) (n' := 1500) C (z_Xr_fr hd (a_X3_whole (z_l X) h_st hC hok pane)) (cs_L_124 C ⟨Nat.le_of_ble_eq_true rfl, Nat.le_of_ble_eq_true rfl⟩) (z_un_l hC.1) rfl rfl rfl rfl (Nat.le_of_ble_eq_true rfl) rfl rfl (Nat.le_of_ble_eq_true rfl) (Nat.le_of_ble_eq_true rfl) dL_whole_3 (fun E9 M9 hq => ?_) (fun x9 M9 hq => ?_)
  · obtain ⟨A9, ⟨hcx, hC9⟩, hd9, rfl⟩ := hq
    rcases hcx with ⟨hk9, rfl⟩ | ⟨hk9, rfl⟩
    · refine z_catch C T [] ⟨0, 9, 12, 19⟩ _ rfl (fun z hz => absurd hz List.not_mem_nil) rfl (by decide) kw693 (z_cI C) (fun qx => ?_)
      show z_W X (z_un A9 B) 40 1500 12 [(0, .ref x), (1, .int pane), (2, .ref ou)] [.ref qx]
      refine z_astore_n (lv' := [(3, .ref qx), (0, .ref x), (1, .int pane), (2, .ref ou)]) C dL_whole_12 rfl (by decide) rfl ?_
      refine z_iconst C (v := 1) dL_whole_13 (by decide) ?_
      refine ret dL_whole_14 rfl ?_ (Nat.le_of_ble_eq_true rfl) (Nat.le_of_ble_eq_true rfl)
      exact w_thT hC9 hd9 ho hk9
    · exact absurd hk9 z_lt1
  · obtain ⟨A9, ⟨hk9, hC9⟩, hd9, rfl⟩ := hq
    refine pf_L_117 (xx := (some x9)) C (z_un_r hd9 ho) dL_whole_6 ?_
    refine z_goto C (tgt := 15) dL_whole_9 (by decide) ?_
    refine z_iconst C (v := 0) dL_whole_15 (by decide) ?_
    refine ret dL_whole_16 rfl ?_ (Nat.le_of_ble_eq_true rfl) (Nat.le_of_ble_eq_true rfl)
    exact w_okT hC9 hd9 ho hk9
set_option maxRecDepth 20000 in
theorem w_isKin (l : Launch) (h_st : l.stackTraces = false) {G : zG} {u : sS} {x pa sp ln rf sb ou t : Nat} {C9 B : zM} {on : Int64} {os : Option Nat} (hC : s_CI G x pa sp ln rf sb u C9) (hd : z_dj C9 B) (ho : B ou = some (cOu on os)) (hok : s_ok t u) (pane other : Int32) : z_Hi l G qL_isKin [(0, 11, 14, 19)] (z_rm 13 8 48) [.ref x, .int pane, .int other, .ref ou] (z_un C9 B) (w_P G x pa sp ln rf sb ou B (z_lt (t_2 pane other) 1) u ((s_kin u pane.toNatClampNeg other.toNatClampNeg, u))) := by
  obtain ⟨P, RA, VA, hC⟩ := hC
  refine z_Hi_of _ rfl rfl (Nat.le_of_ble_eq_true rfl) (fun X hl hG C T ret => ?_)
  subst hl; subst hG
  have C : z_C X cL_isKin RL 5 (z_rm 13 8 48) := C
  show z_W X (z_un C9 B) 0 0 0 [(0, .ref x), (1, .int pane), (2, .int other), (3, .ref ou)] []
  refine z_aload_n C dL_isKin_0 rfl 3 rfl ?_
  refine z_aload_n C dL_isKin_1 rfl 0 rfl ?_
  refine z_iload_n C dL_isKin_2 rfl 1 rfl ?_
  refine z_iload_n C dL_isKin_3 rfl 2 rfl ?_
  refine z_callXVi (rest := [.ref ou]) (k' := 8) (n' := 48) C (z_Xi_fr hd (a_X3_isKin (z_l X) h_st hC hok pane other)) (cs_L_127 C ⟨Nat.le_of_ble_eq_true rfl, Nat.le_of_ble_eq_true rfl⟩) (z_un_l hC.1) rfl rfl rfl rfl (Nat.le_of_ble_eq_true rfl) rfl rfl (Nat.le_of_ble_eq_true rfl) (Nat.le_of_ble_eq_true rfl) dL_isKin_4 (fun E9 M9 hq => ?_) (fun x9 M9 hq => ?_)
  · obtain ⟨A9, ⟨hcx, hC9⟩, hd9, rfl⟩ := hq
    rcases hcx with ⟨hk9, rfl⟩ | ⟨hk9, rfl⟩
    · refine z_catch C T [] ⟨0, 11, 14, 19⟩ _ rfl (fun z hz => absurd hz List.not_mem_nil) rfl (by decide) kw693 (z_cI C) (fun qx => ?_)
      show z_W X (z_un A9 B) 8 48 14 [(0, .ref x), (1, .int pane), (2, .int other), (3, .ref ou)] [.ref qx]
      refine z_astore (lv' := [(4, .ref qx), (0, .ref x), (1, .int pane), (2, .int other), (3, .ref ou)]) C dL_isKin_14 (by decide) rfl ?_
      refine z_iconst C (v := 1) dL_isKin_16 (by decide) ?_
      refine ret dL_isKin_17 rfl ?_ (Nat.le_of_ble_eq_true rfl) (Nat.le_of_ble_eq_true rfl)
      exact w_th hC9 hd9 ho hk9 (by decide)
    · exact absurd hk9 z_lt1
  · obtain ⟨A9, ⟨hk9, hr9, hC9⟩, hd9, rfl⟩ := hq
    refine z_i2l C dL_isKin_7 ?_
    refine pf_L_13 C (z_un_r hd9 ho) dL_isKin_8 ?_
    refine z_goto C (tgt := 18) dL_isKin_11 (by decide) ?_
    refine z_iconst C (v := 0) dL_isKin_18 (by decide) ?_
    refine ret dL_isKin_19 rfl ?_ (Nat.le_of_ble_eq_true rfl) (Nat.le_of_ble_eq_true rfl)
    exact w_ok hC9 hd9 ho hk9 hr9
set_option maxRecDepth 20000 in
theorem w_sees (l : Launch) (h_st : l.stackTraces = false) {G : zG} {u : sS} {x pa sp ln rf sb ou t : Nat} {C9 B : zM} {on : Int64} {os : Option Nat} (hC : s_CI G x pa sp ln rf sb u C9) (hd : z_dj C9 B) (ho : B ou = some (cOu on os)) (hok : s_ok t u) (pane a2 other : Int32) : z_Hi l G qL_sees [(0, 13, 16, 19)] (z_rm 13 8 48) [.ref x, .int pane, .int a2, .int other, .ref ou] (z_un C9 B) (w_P G x pa sp ln rf sb ou B (z_lt (t_2 pane other) 1) u ((s_sees u pane.toNatClampNeg a2 other.toNatClampNeg, u))) := by
  obtain ⟨P, RA, VA, hC⟩ := hC
  refine z_Hi_of _ rfl rfl (Nat.le_of_ble_eq_true rfl) (fun X hl hG C T ret => ?_)
  subst hl; subst hG
  have C : z_C X cL_sees RL 6 (z_rm 13 8 48) := C
  show z_W X (z_un C9 B) 0 0 0 [(0, .ref x), (1, .int pane), (2, .int a2), (3, .int other), (4, .ref ou)] []
  refine z_aload C dL_sees_0 4 rfl ?_
  refine z_aload_n C dL_sees_2 rfl 0 rfl ?_
  refine z_iload_n C dL_sees_3 rfl 1 rfl ?_
  refine z_iload_n C dL_sees_4 rfl 2 rfl ?_
  refine z_iload_n C dL_sees_5 rfl 3 rfl ?_
  refine z_callXVi (rest := [.ref ou]) (k' := 8) (n' := 48) C (z_Xi_fr hd (a_X3_sees (z_l X) h_st hC hok pane a2 other)) (cs_L_130 C ⟨Nat.le_of_ble_eq_true rfl, Nat.le_of_ble_eq_true rfl⟩) (z_un_l hC.1) rfl rfl rfl rfl (Nat.le_of_ble_eq_true rfl) rfl rfl (Nat.le_of_ble_eq_true rfl) (Nat.le_of_ble_eq_true rfl) dL_sees_6 (fun E9 M9 hq => ?_) (fun x9 M9 hq => ?_)
  · obtain ⟨A9, ⟨hcx, hC9⟩, hd9, rfl⟩ := hq
    rcases hcx with ⟨hk9, rfl⟩ | ⟨hk9, rfl⟩
    · refine z_catch C T [] ⟨0, 13, 16, 19⟩ _ rfl (fun z hz => absurd hz List.not_mem_nil) rfl (by decide) kw693 (z_cI C) (fun qx => ?_)
      show z_W X (z_un A9 B) 8 48 16 [(0, .ref x), (1, .int pane), (2, .int a2), (3, .int other), (4, .ref ou)] [.ref qx]
      refine z_astore (lv' := [(5, .ref qx), (0, .ref x), (1, .int pane), (2, .int a2), (3, .int other), (4, .ref ou)]) C dL_sees_16 (by decide) rfl ?_
      refine z_iconst C (v := 1) dL_sees_18 (by decide) ?_
      refine ret dL_sees_19 rfl ?_ (Nat.le_of_ble_eq_true rfl) (Nat.le_of_ble_eq_true rfl)
      exact w_th hC9 hd9 ho hk9 (by decide)
    · exact absurd hk9 z_lt1
  · obtain ⟨A9, ⟨hk9, hr9, hC9⟩, hd9, rfl⟩ := hq
    refine z_i2l C dL_sees_9 ?_
    refine pf_L_13 C (z_un_r hd9 ho) dL_sees_10 ?_
    refine z_goto C (tgt := 20) dL_sees_13 (by decide) ?_
    refine z_iconst C (v := 0) dL_sees_20 (by decide) ?_
    refine ret dL_sees_21 rfl ?_ (Nat.le_of_ble_eq_true rfl) (Nat.le_of_ble_eq_true rfl)
    exact w_ok hC9 hd9 ho hk9 hr9
set_option maxRecDepth 20000 in
theorem w_would (l : Launch) (h_st : l.stackTraces = false) {G : zG} {u : sS} {x pa sp ln rf sb ou t : Nat} {C9 B : zM} {on : Int64} {os : Option Nat} (hC : s_CI G x pa sp ln rf sb u C9) (hd : z_dj C9 B) (ho : B ou = some (cOu on os)) (hok : s_ok t u) (pane a2 : Int32) : z_Hi l G qL_would [(0, 11, 14, 19), (0, 11, 18, 21)] (z_rm 13 8 48) [.ref x, .int pane, .int a2, .ref ou] (z_un C9 B) (w_P G x pa sp ln rf sb ou B (z_lt (z_is pane 0 5) (z_is a2 0 3)) u ((s_would u pane.toNatClampNeg a2, u))) := by
  obtain ⟨P, RA, VA, hC⟩ := hC
  refine z_Hi_of _ rfl rfl (Nat.le_of_ble_eq_true rfl) (fun X hl hG C T ret => ?_)
  subst hl; subst hG
  have C : z_C X cL_would RL 5 (z_rm 13 8 48) := C
  show z_W X (z_un C9 B) 0 0 0 [(0, .ref x), (1, .int pane), (2, .int a2), (3, .ref ou)] []
  refine z_aload_n C dL_would_0 rfl 3 rfl ?_
  refine z_aload_n C dL_would_1 rfl 0 rfl ?_
  refine z_iload_n C dL_would_2 rfl 1 rfl ?_
  refine z_iload_n C dL_would_3 rfl 2 rfl ?_
  refine z_callXVi (rest := [.ref ou]) (k' := 8) (n' := 48) C (z_Xi_fr hd (a_X3_would (z_l X) h_st hC hok pane a2)) (cs_L_133 C ⟨Nat.le_of_ble_eq_true rfl, Nat.le_of_ble_eq_true rfl⟩) (z_un_l hC.1) rfl rfl rfl rfl (Nat.le_of_ble_eq_true rfl) rfl rfl (Nat.le_of_ble_eq_true rfl) (Nat.le_of_ble_eq_true rfl) dL_would_4 (fun E9 M9 hq => ?_) (fun x9 M9 hq => ?_)
  · obtain ⟨A9, ⟨hcx, hC9⟩, hd9, rfl⟩ := hq
    rcases hcx with ⟨hk9, rfl⟩ | ⟨hk9, rfl⟩
    · refine z_catch C T [] ⟨0, 11, 14, 19⟩ _ rfl (fun z hz => absurd hz List.not_mem_nil) rfl (by decide) kw693 (z_cI C) (fun qx => ?_)
      show z_W X (z_un A9 B) 8 48 14 [(0, .ref x), (1, .int pane), (2, .int a2), (3, .ref ou)] [.ref qx]
      refine z_astore (lv' := [(4, .ref qx), (0, .ref x), (1, .int pane), (2, .int a2), (3, .ref ou)]) C dL_would_14 (by decide) rfl ?_
      refine z_iconst C (v := 1) dL_would_16 (by decide) ?_
      refine ret dL_would_17 rfl ?_ (Nat.le_of_ble_eq_true rfl) (Nat.le_of_ble_eq_true rfl)
      exact w_th hC9 hd9 ho hk9 (by decide)
    · refine z_catch C T [⟨0, 11, 14, 19⟩] ⟨0, 11, 18, 21⟩ _ rfl (fun z hz => by rw [List.mem_singleton.mp hz]; exact Or.inr ⟨by decide, _, kw693, z_pasA C⟩) rfl (by decide) kw694 (z_cA C) (fun qx => ?_)
      show z_W X (z_un A9 B) 8 48 18 [(0, .ref x), (1, .int pane), (2, .int a2), (3, .ref ou)] [.ref qx]
      refine z_astore (lv' := [(4, .ref qx), (0, .ref x), (1, .int pane), (2, .int a2), (3, .ref ou)]) C dL_would_18 (by decide) rfl ?_
      refine z_iconst C (v := 2) dL_would_20 (by decide) ?_
      refine ret dL_would_21 rfl ?_ (Nat.le_of_ble_eq_true rfl) (Nat.le_of_ble_eq_true rfl)
      exact w_th hC9 hd9 ho hk9 (by decide)
  · obtain ⟨A9, ⟨hk9, hr9, hC9⟩, hd9, rfl⟩ := hq
    refine z_i2l C dL_would_7 ?_
    refine pf_L_13 C (z_un_r hd9 ho) dL_would_8 ?_
    refine z_goto C (tgt := 22) dL_would_11 (by decide) ?_
    refine z_iconst C (v := 0) dL_would_22 (by decide) ?_
    refine ret dL_would_23 rfl ?_ (Nat.le_of_ble_eq_true rfl) (Nat.le_of_ble_eq_true rfl)
    exact w_ok hC9 hd9 ho hk9 hr9
set_option maxRecDepth 20000 in
theorem w_house (l : Launch) (h_st : l.stackTraces = false) {G : zG} {u : sS} {x pa sp ln rf sb ou t : Nat} {C9 B : zM} {on : Int64} {os : Option Nat} (hC : s_CI G x pa sp ln rf sb u C9) (hd : z_dj C9 B) (ho : B ou = some (cOu on os)) (hok : s_ok t u) (a1 : Int32) : z_Hi l G qL_house [(0, 10, 13, 21)] (z_rm 13 8 48) [.ref x, .int a1, .ref ou] (z_un C9 B) (w_P G x pa sp ln rf sb ou B (z_lt (z_is a1 0 8) 1) u ((s_house u a1, u))) := by
  obtain ⟨P, RA, VA, hC⟩ := hC
  refine z_Hi_of _ rfl rfl (Nat.le_of_ble_eq_true rfl) (fun X hl hG C T ret => ?_)
  subst hl; subst hG
  have C : z_C X cL_house RL 4 (z_rm 13 8 48) := C
  show z_W X (z_un C9 B) 0 0 0 [(0, .ref x), (1, .int a1), (2, .ref ou)] []
  refine z_aload_n C dL_house_0 rfl 2 rfl ?_
  refine z_aload_n C dL_house_1 rfl 0 rfl ?_
  refine z_iload_n C dL_house_2 rfl 1 rfl ?_
  refine z_callXVi (rest := [.ref ou]) (k' := 8) (n' := 48) C (z_Xi_fr hd (a_X3_house (z_l X) h_st hC hok a1)) (cs_L_136 C ⟨Nat.le_of_ble_eq_true rfl, Nat.le_of_ble_eq_true rfl⟩) (z_un_l hC.1) rfl rfl rfl rfl (Nat.le_of_ble_eq_true rfl) rfl rfl (Nat.le_of_ble_eq_true rfl) (Nat.le_of_ble_eq_true rfl) dL_house_3 (fun E9 M9 hq => ?_) (fun x9 M9 hq => ?_)
  · obtain ⟨A9, ⟨⟨hk9, rfl⟩, hC9⟩, hd9, rfl⟩ := hq
    refine z_catch C T [] ⟨0, 10, 13, 21⟩ _ rfl (fun z hz => absurd hz List.not_mem_nil) rfl (by decide) kw694 (z_cA C) (fun qx => ?_)
    show z_W X (z_un A9 B) 8 48 13 [(0, .ref x), (1, .int a1), (2, .ref ou)] [.ref qx]
    refine z_astore_n (lv' := [(3, .ref qx), (0, .ref x), (1, .int a1), (2, .ref ou)]) C dL_house_13 rfl (by decide) rfl ?_
    refine z_iconst C (v := 1) dL_house_14 (by decide) ?_
    refine ret dL_house_15 rfl ?_ (Nat.le_of_ble_eq_true rfl) (Nat.le_of_ble_eq_true rfl)
    exact w_th hC9 hd9 ho hk9 (by decide)
  · obtain ⟨A9, ⟨hk9, hr9, hC9⟩, hd9, rfl⟩ := hq
    refine z_i2l C dL_house_6 ?_
    refine pf_L_13 C (z_un_r hd9 ho) dL_house_7 ?_
    refine z_goto C (tgt := 16) dL_house_10 (by decide) ?_
    refine z_iconst C (v := 0) dL_house_16 (by decide) ?_
    refine ret dL_house_17 rfl ?_ (Nat.le_of_ble_eq_true rfl) (Nat.le_of_ble_eq_true rfl)
    exact w_ok hC9 hd9 ho hk9 hr9
end
section
/-! PART 66: the law's world: the class's cells beside the reference's beside Out's; what each call makes of it -/
def s_LX (G : zG) (x pa sp ln rf sb m pn td ou : Nat) (uc ur : sS) (th : Int32) (on : Int64) (Mw : zM) : Prop := ∃ (C R O : zM) (os : Option Nat), Mw = z_un C (z_un R O) ∧ z_dj C (z_un R O) ∧ z_dj R O ∧ s_CI G x pa sp ln rf sb uc C ∧ s_RI G m pn td th ur R ∧ O ou = some (cOu on os)
theorem z_un_mid {A B D : zM} (h1 : z_dj A (z_un B D)) (h2 : z_dj B D) : z_un A (z_un B D) = z_un B (z_un A D) ∧ z_dj B (z_un A D) := by
  have h3 := z_dj_2l h1
  refine ⟨?_, z_dj_un2 (z_dj_sym h3) h2⟩
  rw [← z_un_assoc, z_un_comm h3, z_un_assoc]
section LX
variable {l : Launch} {G : zG} {x pa sp ln rf sb m pn td ou : Nat} {uc ur u v : sS} {th k : Int32} {on : Int64} {Mw : zM} {q : zY} {hh : List (Nat × Nat × Nat × Nat)} {rm : Room} {av : List Value} {b : sR}
theorem s_LX_ou (h : s_LX G x pa sp ln rf sb m pn td ou uc ur th on Mw) : ∃ os, Mw ou = some (cOu on os) := by
  obtain ⟨C, R, O, os, rfl, d1, d2, hC, hR, ho⟩ := h
  exact ⟨os, z_un_r d1 (z_un_r d2 ho)⟩
theorem s_LX_m (h : s_LX G x pa sp ln rf sb m pn td ou uc ur th on Mw) : ∃ tp, Mw m = some (cMd tp (nI (s_nr ur)) pn td (s_ac ur) (s_kn ur) th) := by
  obtain ⟨C, R, O, os, rfl, d1, d2, hC, ⟨K, tp, hR⟩, ho⟩ := h
  exact ⟨tp, z_un_r d1 (z_un_l hR.1)⟩
theorem s_LX_x (h : s_LX G x pa sp ln rf sb m pn td ou uc ur th on Mw) : ∃ lr, Mw x = some (cMp lr pa sp ln rf (s_ac uc) (s_kn uc)) := by
  obtain ⟨C, R, O, os, rfl, d1, d2, ⟨P, RA, VA, hC⟩, hR, ho⟩ := h
  exact ⟨RA 0, z_un_l hC.1⟩
/-- a call of the class, caught -/
theorem s_LX_P (h : s_LX G x pa sp ln rf sb m pn td ou u ur th on Mw) (hW : ∀ {C9 B : zM} {on : Int64} {os : Option Nat}, s_CI G x pa sp ln rf sb u C9 → z_dj C9 B → B ou = some (cOu on os) → z_Hi l G q hh rm av (z_un C9 B) (w_P G x pa sp ln rf sb ou B k u b)) : z_Hi l G q hh rm av Mw (fun r Mz => r = k ∧ ∃ on', s_LX G x pa sp ln rf sb m pn td ou (if k = 0 then b.2 else u) ur th on' Mz ∧ (k = 0 → on' = b.1.toInt64)) := by
  obtain ⟨C, R, O, os, rfl, d1, d2, hC, hR, ho⟩ := h
  refine z_Hi_mono (hW hC d1 (z_un_r d2 ho)) ?_
  rintro r Mz ⟨hr9, C', on', os', hC', d', rfl, ho'⟩
  have e : z_up (z_un R O) ou (cOu on' os') = z_un R (z_up O ou (cOu on' os')) := z_un_upr (z_un_o d2 ho)
  rw [e] at d' ⊢
  exact ⟨hr9, on', ⟨C', R, _, os', rfl, d', z_dj_up d2 (z_un_o d2 ho), hC', hR, z_up_s _ _ _⟩, ho'⟩
theorem s_LX_T (h : s_LX G x pa sp ln rf sb m pn td ou u ur th on Mw) (hW : ∀ {C9 B : zM} {on : Int64} {os : Option Nat}, s_CI G x pa sp ln rf sb u C9 → z_dj C9 B → B ou = some (cOu on os) → z_Hi l G q hh rm av (z_un C9 B) (w_T G x pa sp ln rf sb ou B k u)) : z_Hi l G q hh rm av Mw (fun r Mz => r = k ∧ ∃ on', s_LX G x pa sp ln rf sb m pn td ou u ur th on' Mz) := by
  obtain ⟨C, R, O, os, rfl, d1, d2, hC, hR, ho⟩ := h
  refine z_Hi_mono (hW hC d1 (z_un_r d2 ho)) ?_
  rintro r Mz ⟨hr9, C', on', os', hC', d', rfl⟩
  have e : z_up (z_un R O) ou (cOu on' os') = z_un R (z_up O ou (cOu on' os')) := z_un_upr (z_un_o d2 ho)
  rw [e] at d' ⊢
  exact ⟨hr9, on', ⟨C', R, _, os', rfl, d', z_dj_up d2 (z_un_o d2 ho), hC', hR, z_up_s _ _ _⟩⟩
/-- a call of the reference -/
theorem s_LX_bk {C O R' : zM} {os : Option Nat} (d1 : z_dj C O) (d : z_dj R' (z_un C O)) (hC : s_CI G x pa sp ln rf sb uc C) (hR : s_RI G m pn td th ur R') (ho : O ou = some (cOu on os)) : s_LX G x pa sp ln rf sb m pn td ou uc ur th on (z_un R' (z_un C O)) := by
  obtain ⟨e, d9⟩ := z_un_mid d d1
  rw [e]
  exact ⟨C, R', O, os, rfl, d9, z_dj_2r d, hC, hR, ho⟩
theorem s_LX_R (h : s_LX G x pa sp ln rf sb m pn td ou uc u th on Mw) (hW : ∀ {R : zM} {th : Int32} {K : Nat → Nat} {tp : Nat}, RI G u m th K tp pn td R → z_Mi l G q rm av R (RP G m pn td k u b)) : z_Mi l G q rm av Mw (fun r Mz => s_LX G x pa sp ln rf sb m pn td ou uc (if k = 0 then b.2 else u) k on Mz ∧ (k = 0 → r = b.1)) := by
  obtain ⟨C, R, O, os, rfl, d1, d2, hC, ⟨K, tp, hR⟩, ho⟩ := h
  obtain ⟨e, d9⟩ := z_un_mid d1 d2
  rw [e]
  refine z_Mi_mono (z_Mi_fr d9 (hW hR)) ?_
  rintro r Mz ⟨R', ⟨K', tp', hR', hr9⟩, d', rfl⟩
  exact ⟨s_LX_bk (z_dj_2r d1) d' hC ⟨K', tp', hR'⟩ ho, hr9⟩
theorem s_LX_RT (h : s_LX G x pa sp ln rf sb m pn td ou uc u th on Mw) (hW : ∀ {R : zM} {th : Int32} {K : Nat → Nat} {tp : Nat}, RI G u m th K tp pn td R → z_Mr l G q rm av R (RT9 G m pn td k u)) : z_Mr l G q rm av Mw (fun r Mz => s_LX G x pa sp ln rf sb m pn td ou uc u k on Mz) := by
  obtain ⟨C, R, O, os, rfl, d1, d2, hC, ⟨K, tp, hR⟩, ho⟩ := h
  obtain ⟨e, d9⟩ := z_un_mid d1 d2
  rw [e]
  refine z_Mr_mono (z_Mr_fr d9 (hW hR)) ?_
  rintro r Mz ⟨R', ⟨⟨K', tp', hR'⟩, -⟩, d', rfl⟩
  exact s_LX_bk (z_dj_2r d1) d' hC ⟨K', tp', hR'⟩ ho
theorem s_LX_Rl {Q : Int64 → Prop} (h : s_LX G x pa sp ln rf sb m pn td ou uc u th on Mw) (hW : ∀ {R : zM} {th : Int32} {K : Nat → Nat} {tp : Nat}, RI G u m th K tp pn td R → z_Ml l G q rm av R (fun r Mz => Q r ∧ ∃ K' tp', RI G u m k K' tp' pn td Mz)) : z_Ml l G q rm av Mw (fun r Mz => Q r ∧ s_LX G x pa sp ln rf sb m pn td ou uc u k on Mz) := by
  obtain ⟨C, R, O, os, rfl, d1, d2, hC, ⟨K, tp, hR⟩, ho⟩ := h
  obtain ⟨e, d9⟩ := z_un_mid d1 d2
  rw [e]
  refine z_Ml_mono (z_Ml_fr d9 (hW hR)) ?_
  rintro r Mz ⟨R', ⟨hq, K', tp', hR'⟩, d', rfl⟩
  exact ⟨hq, s_LX_bk (z_dj_2r d1) d' hC ⟨K', tp', hR'⟩ ho⟩
/-- a call of the class that the law makes itself -/
theorem s_LX_Ci {Q : Int32 → Prop} (h : s_LX G x pa sp ln rf sb m pn td ou u ur th on Mw) (hW : ∀ {C : zM}, s_CI G x pa sp ln rf sb u C → z_Mi l G q rm av C (fun r Mz => Q r ∧ s_CI G x pa sp ln rf sb v Mz)) : z_Mi l G q rm av Mw (fun r Mz => Q r ∧ s_LX G x pa sp ln rf sb m pn td ou v ur th on Mz) := by
  obtain ⟨C, R, O, os, rfl, d1, d2, hC, hR, ho⟩ := h
  refine z_Mi_mono (z_Mi_fr d1 (hW hC)) ?_
  rintro r Mz ⟨C', ⟨hq, hC'⟩, d', rfl⟩
  exact ⟨hq, C', R, O, os, rfl, d', d2, hC', hR, ho⟩
theorem s_LX_Cl {Q : Int64 → Prop} (h : s_LX G x pa sp ln rf sb m pn td ou u ur th on Mw) (hW : ∀ {C : zM}, s_CI G x pa sp ln rf sb u C → z_Ml l G q rm av C (fun r Mz => Q r ∧ s_CI G x pa sp ln rf sb v Mz)) : z_Ml l G q rm av Mw (fun r Mz => Q r ∧ s_LX G x pa sp ln rf sb m pn td ou v ur th on Mz) := by
  obtain ⟨C, R, O, os, rfl, d1, d2, hC, hR, ho⟩ := h
  refine z_Ml_mono (z_Ml_fr d1 (hW hC)) ?_
  rintro r Mz ⟨C', ⟨hq, hC'⟩, d', rfl⟩
  exact ⟨hq, C', R, O, os, rfl, d', d2, hC', hR, ho⟩
theorem s_LX_Cr (h : s_LX G x pa sp ln rf sb m pn td ou u ur th on Mw) (hW : ∀ {C : zM}, s_CI G x pa sp ln rf sb u C → z_Mr l G q rm av C (fun r Mz => s_CI G x pa sp ln rf sb v Mz)) : z_Mr l G q rm av Mw (fun r Mz => s_LX G x pa sp ln rf sb m pn td ou v ur th on Mz) := by
  obtain ⟨C, R, O, os, rfl, d1, d2, hC, hR, ho⟩ := h
  refine z_Mr_mono (z_Mr_fr d1 (hW hC)) ?_
  rintro r Mz ⟨C', hC', d', rfl⟩
  exact ⟨C', R, O, os, rfl, d', d2, hC', hR, ho⟩
end LX
theorem so_lt {a b : Int32} (h : z_lt a b = 0) : ¬ a = 0 ∧ ¬ b = 0 := by
  unfold z_lt at h
  split at h
  · exact absurd h (by decide)
  · rename_i h1
    split at h
    · exact absurd h (by decide)
    · rename_i h2; exact ⟨h1, h2⟩
theorem so_ip {pane : Int32} (h : ¬ z_is pane 0 5 = 0) : pane.toNatClampNeg < 6 := by
  rcases z_pc pane with ⟨-, -, hi⟩ | ⟨hb, -⟩
  · exact hi
  · exact absurd hb h
theorem so_t2 {a b : Int32} (h : ¬ t_2 a b = 0) : a.toNatClampNeg < 6 ∧ b.toNatClampNeg < 6 := by
  unfold t_2 at h
  split at h
  · exact absurd rfl h
  · rename_i h1; exact ⟨so_ip h1, so_ip h⟩
theorem so_and {a b : Int32} (h : ¬ t_and a b = 0) : ¬ a = 0 ∧ ¬ b = 0 := by
  unfold t_and at h
  split at h
  · exact absurd rfl h
  · rename_i h1; exact ⟨h1, h⟩
theorem so_nn {v : Int32} (h : ¬ t_nn v = 0) : 0 ≤ v.toInt := by
  unfold t_nn at h
  split at h
  · exact absurd rfl h
  · rename_i h1; rw [z_ltI, z_t0] at h1; omega
section SO
variable {t : Nat} {u : sS}
theorem s_ok_fill {i : Nat} {a b mn : Int32} (h : s_ok t u) (hi : i < 6) (h1 : ¬ z_is a 0 1000000 = 0) (h2 : ¬ z_is b 0 1000000 = 0) (h3 : ¬ z_is mn 0 20 = 0) : s_ok t (s_fill u i a b mn).2 := s_ok_ak (s_ok_fill1 h hi (s_fv h1 h2) _ 0 u (by have := z_r20 h3; omega) h) _ _
theorem s_ok_pour {i k : Nat} {mn : Int32} (h : s_ok t u) (hi : i < 6) (hk : k < 6) : s_ok t (s_pour u i k mn).2 := s_ok_ak (s_ok_pour1 hi hk _ 0 u h) _ _
theorem so_wrap (hok : s_ok t u) {pane a2 a3 : Int32} : s_ok (t + 1) (if z_lt (z_is pane 0 5) (t_and (z_is a2 0 16) (z_is a3 0 (16 - a2))) = 0 then (s_wrap u pane.toNatClampNeg a2 a3 : sR).2 else u) := by
  split
  · rename_i h0
    exact s_ok_mono (s_ok_wrap hok (so_and (so_lt h0).2).1 (so_and (so_lt h0).2).2) (Nat.le_succ t)
  · exact s_ok_mono hok (Nat.le_succ t)
theorem so_fresh (hok : s_ok t u) {pane a2 : Int32} : s_ok (t + 1) (if z_lt (z_is pane 0 5) (z_is a2 0 12) = 0 then (s_fresh u pane.toNatClampNeg a2 : sR).2 else u) := by
  split
  · rename_i h0
    exact s_ok_fresh hok (so_lt h0).2
  · exact s_ok_mono hok (Nat.le_succ t)
theorem so_twin (hok : s_ok t u) {pane other : Int32} : s_ok (t + 1) (if z_lt (t_2 pane other) 1 = 0 then (s_twin u pane.toNatClampNeg other.toNatClampNeg : sR).2 else u) := by
  split
  · rename_i h0
    exact s_ok_mono (s_ok_twin hok (so_t2 (so_lt h0).1).2) (Nat.le_succ t)
  · exact s_ok_mono hok (Nat.le_succ t)
theorem so_rest (hok : s_ok t u) {pane other : Int32} : s_ok (t + 1) (if z_lt (t_2 pane other) 1 = 0 then (s_rest u pane.toNatClampNeg other.toNatClampNeg : sR).2 else u) := by
  split
  · rename_i h0
    exact s_ok_mono (s_ok_rest hok (so_t2 (so_lt h0).1).2) (Nat.le_succ t)
  · exact s_ok_mono hok (Nat.le_succ t)
theorem so_part (hok : s_ok t u) {pane other a3 a4 : Int32} : s_ok (t + 1) (if z_lt (t_2 pane other) 1 = 0 then (s_part u pane.toNatClampNeg other.toNatClampNeg a3 a4 : sR).2 else u) := by
  split
  · rename_i h0
    exact s_ok_mono (s_ok_part hok (so_t2 (so_lt h0).1).2) (Nat.le_succ t)
  · exact s_ok_mono hok (Nat.le_succ t)
theorem so_reader (hok : s_ok t u) {pane other : Int32} : s_ok (t + 1) (if z_lt (t_2 pane other) 1 = 0 then (s_reader u pane.toNatClampNeg other.toNatClampNeg : sR).2 else u) := by
  split
  · rename_i h0
    exact s_ok_mono (s_ok_reader hok (so_t2 (so_lt h0).1).2) (Nat.le_succ t)
  · exact s_ok_mono hok (Nat.le_succ t)
theorem so_exchange (hok : s_ok t u) {pane other : Int32} : s_ok (t + 1) (if z_lt (t_2 pane other) 1 = 0 then (s_exch u pane.toNatClampNeg other.toNatClampNeg : sR).2 else u) := by
  split
  · rename_i h0
    exact s_ok_mono (s_ok_exch hok (so_t2 (so_lt h0).1).1 (so_t2 (so_lt h0).1).2) (Nat.le_succ t)
  · exact s_ok_mono hok (Nat.le_succ t)
theorem so_go (hok : s_ok t u) {pane a2 : Int32} : s_ok (t + 1) (if z_lt (z_is pane 0 5) 1 = 0 then (s_go u pane.toNatClampNeg a2 : sR).2 else u) := by
  split
  · rename_i h0
    exact s_ok_mono (s_ok_go hok (so_ip (so_lt h0).1)) (Nat.le_succ t)
  · exact s_ok_mono hok (Nat.le_succ t)
theorem so_move (hok : s_ok t u) {pane a2 : Int32} : s_ok (t + 1) (if z_lt (z_is pane 0 5) (z_is a2 (-20) 20) = 0 then (s_move u pane.toNatClampNeg a2 : sR).2 else u) := by
  split
  · rename_i h0
    exact s_ok_mono (s_ok_move hok (so_ip (so_lt h0).1)) (Nat.le_succ t)
  · exact s_ok_mono hok (Nat.le_succ t)
theorem so_end (hok : s_ok t u) {pane a2 : Int32} : s_ok (t + 1) (if z_lt (z_is pane 0 5) 1 = 0 then (s_end u pane.toNatClampNeg a2 : sR).2 else u) := by
  split
  · rename_i h0
    exact s_ok_mono (s_ok_end hok (so_ip (so_lt h0).1)) (Nat.le_succ t)
  · exact s_ok_mono hok (Nat.le_succ t)
theorem so_stretch (hok : s_ok t u) {pane a2 : Int32} : s_ok (t + 1) (if z_lt (z_is pane 0 5) (z_is a2 (-20) 20) = 0 then (s_stretch u pane.toNatClampNeg a2 : sR).2 else u) := by
  split
  · rename_i h0
    exact s_ok_mono (s_ok_stretch hok (so_ip (so_lt h0).1)) (Nat.le_succ t)
  · exact s_ok_mono hok (Nat.le_succ t)
theorem so_mark (hok : s_ok t u) {pane : Int32} : s_ok (t + 1) (if z_lt (z_is pane 0 5) 1 = 0 then (s_mark u pane.toNatClampNeg : sR).2 else u) := by
  split
  · rename_i h0
    exact s_ok_mono (s_ok_mark hok (so_ip (so_lt h0).1)) (Nat.le_succ t)
  · exact s_ok_mono hok (Nat.le_succ t)
theorem so_back (hok : s_ok t u) {pane : Int32} : s_ok (t + 1) (if z_lt (z_is pane 0 5) 1 = 0 then (s_back u pane.toNatClampNeg : sR).2 else u) := by
  split
  · rename_i h0
    exact s_ok_mono (s_ok_back hok (so_ip (so_lt h0).1)) (Nat.le_succ t)
  · exact s_ok_mono hok (Nat.le_succ t)
theorem so_clear (hok : s_ok t u) {pane : Int32} : s_ok (t + 1) (if z_lt (z_is pane 0 5) 1 = 0 then (s_clear u pane.toNatClampNeg : sR).2 else u) := by
  split
  · rename_i h0
    exact s_ok_mono (s_ok_clear hok (so_ip (so_lt h0).1)) (Nat.le_succ t)
  · exact s_ok_mono hok (Nat.le_succ t)
theorem so_flip (hok : s_ok t u) {pane : Int32} : s_ok (t + 1) (if z_lt (z_is pane 0 5) 1 = 0 then (s_flip u pane.toNatClampNeg : sR).2 else u) := by
  split
  · rename_i h0
    exact s_ok_mono (s_ok_flip hok (so_ip (so_lt h0).1)) (Nat.le_succ t)
  · exact s_ok_mono hok (Nat.le_succ t)
theorem so_rewind (hok : s_ok t u) {pane : Int32} : s_ok (t + 1) (if z_lt (z_is pane 0 5) 1 = 0 then (s_rewind u pane.toNatClampNeg : sR).2 else u) := by
  split
  · rename_i h0
    exact s_ok_mono (s_ok_rewind hok (so_ip (so_lt h0).1)) (Nat.le_succ t)
  · exact s_ok_mono hok (Nat.le_succ t)
theorem so_put (hok : s_ok t u) {pane a2 : Int32} : s_ok (t + 1) (if z_lt (z_is pane 0 5) (t_nn a2) = 0 then (s_put u pane.toNatClampNeg a2 : sR).2 else u) := by
  split
  · rename_i h0
    exact s_ok_mono (s_ok_put hok (so_ip (so_lt h0).1) (so_nn (so_lt h0).2)) (Nat.le_succ t)
  · exact s_ok_mono hok (Nat.le_succ t)
theorem so_putAt (hok : s_ok t u) {pane a2 a3 : Int32} : s_ok (t + 1) (if z_lt (z_is pane 0 5) (t_nn a3) = 0 then (s_putAt u pane.toNatClampNeg a2 a3 : sR).2 else u) := by
  split
  · rename_i h0
    exact s_ok_mono (s_ok_putAt hok (so_nn (so_lt h0).2)) (Nat.le_succ t)
  · exact s_ok_mono hok (Nat.le_succ t)
theorem so_bring (hok : s_ok t u) {pane a2 other a4 : Int32} : s_ok (t + 1) (if z_lt (t_2 pane other) 1 = 0 then (s_bring u pane.toNatClampNeg other.toNatClampNeg a2 a4 : sR).2 else u) := by
  split
  · rename_i h0
    exact s_ok_mono (s_ok_bring hok) (Nat.le_succ t)
  · exact s_ok_mono hok (Nat.le_succ t)
theorem so_fill (hok : s_ok t u) {pane a2 a3 a4 : Int32} : s_ok (t + 1) (if z_lt (z_is pane 0 5) (t_and (z_is a2 0 1000000) (t_and (z_is a3 0 1000000) (z_is a4 0 20))) = 0 then (s_fill u pane.toNatClampNeg a2 a3 a4 : sR).2 else u) := by
  split
  · rename_i h0
    exact s_ok_mono (s_ok_fill hok (so_ip (so_lt h0).1) (so_and (so_lt h0).2).1 (so_and (so_and (so_lt h0).2).2).1 (so_and (so_and (so_lt h0).2).2).2) (Nat.le_succ t)
  · exact s_ok_mono hok (Nat.le_succ t)
theorem so_pack (hok : s_ok t u) {pane : Int32} : s_ok (t + 1) (if z_lt (z_is pane 0 5) 1 = 0 then (s_pack u pane.toNatClampNeg : sR).2 else u) := by
  split
  · rename_i h0
    exact s_ok_mono (s_ok_pack hok (so_ip (so_lt h0).1)) (Nat.le_succ t)
  · exact s_ok_mono hok (Nat.le_succ t)
theorem so_pour (hok : s_ok t u) {pane other a3 : Int32} : s_ok (t + 1) (if z_lt (t_2 pane other) (z_is a3 0 20) = 0 then (s_pour u pane.toNatClampNeg other.toNatClampNeg a3 : sR).2 else u) := by
  split
  · rename_i h0
    exact s_ok_mono (s_ok_pour hok (so_t2 (so_lt h0).1).1 (so_t2 (so_lt h0).1).2) (Nat.le_succ t)
  · exact s_ok_mono hok (Nat.le_succ t)
theorem so_lay (hok : s_ok t u) {a1 a2 : Int32} : s_ok (t + 1) (if z_lt (z_is a1 0 15) (t_nn a2) = 0 then (s_lay u a1 a2 : sR).2 else u) := by
  split
  · rename_i h0
    exact s_ok_mono (s_ok_lay hok (so_nn (so_lt h0).2)) (Nat.le_succ t)
  · exact s_ok_mono hok (Nat.le_succ t)
theorem so_reach (hok : s_ok t u) {pane a2 a3 : Int32} : s_ok (t + 1) (if z_lt (z_is pane 0 5) (t_nn a3) = 0 then (s_reach u pane.toNatClampNeg a2 a3 : sR).2 else u) := by
  split
  · rename_i h0
    exact s_ok_mono (s_ok_reach hok (so_nn (so_lt h0).2)) (Nat.le_succ t)
  · exact s_ok_mono hok (Nat.le_succ t)
theorem so_get (hok : s_ok t u) {pane : Int32} : s_ok (t + 1) (if z_lt (z_is pane 0 5) 1 = 0 then (s_get u pane.toNatClampNeg : sR).2 else u) := by
  split
  · rename_i h0
    exact s_ok_mono (s_ok_get hok (so_ip (so_lt h0).1)) (Nat.le_succ t)
  · exact s_ok_mono hok (Nat.le_succ t)
theorem so_drain (hok : s_ok t u) {pane a2 : Int32} : s_ok (t + 1) (if z_lt (z_is pane 0 5) (z_is a2 0 20) = 0 then (s_drain u pane.toNatClampNeg a2 : sR).2 else u) := by
  split
  · rename_i h0
    exact s_ok_mono (s_ok_drain hok (so_ip (so_lt h0).1) (z_isT (so_lt h0).2).1) (Nat.le_succ t)
  · exact s_ok_mono hok (Nat.le_succ t)
theorem so_pop (hok : s_ok t u) {pane : Int32} : s_ok (t + 1) (if z_lt (z_is pane 0 5) 1 = 0 then (s_pop u pane.toNatClampNeg : sR).2 else u) := by
  split
  · rename_i h0
    exact s_ok_mono (s_ok_pop hok (so_ip (so_lt h0).1)) (Nat.le_succ t)
  · exact s_ok_mono hok (Nat.le_succ t)
theorem so_ofPane (hok : s_ok t u) {pane a2 : Int32} : s_ok (t + 1) (if z_lt (z_is pane 0 5) (z_is a2 0 9) = 0 then ((s_of u pane.toNatClampNeg a2, u) : sR).2 else u) := by
  split
  · rename_i h0
    exact s_ok_mono (hok) (Nat.le_succ t)
  · exact s_ok_mono hok (Nat.le_succ t)
theorem so_at (hok : s_ok t u) {pane a2 : Int32} : s_ok (t + 1) (if z_lt (z_is pane 0 5) 1 = 0 then ((s_at u pane.toNatClampNeg a2, u) : sR).2 else u) := by
  split
  · rename_i h0
    exact s_ok_mono (hok) (Nat.le_succ t)
  · exact s_ok_mono hok (Nat.le_succ t)
theorem so_peek (hok : s_ok t u) {pane : Int32} : s_ok (t + 1) (if z_lt (z_is pane 0 5) 1 = 0 then ((s_peek u pane.toNatClampNeg, u) : sR).2 else u) := by
  split
  · rename_i h0
    exact s_ok_mono (hok) (Nat.le_succ t)
  · exact s_ok_mono hok (Nat.le_succ t)
theorem so_isKin (hok : s_ok t u) {pane other : Int32} : s_ok (t + 1) (if z_lt (t_2 pane other) 1 = 0 then ((s_kin u pane.toNatClampNeg other.toNatClampNeg, u) : sR).2 else u) := by
  split
  · rename_i h0
    exact s_ok_mono (hok) (Nat.le_succ t)
  · exact s_ok_mono hok (Nat.le_succ t)
theorem so_sees (hok : s_ok t u) {pane a2 other : Int32} : s_ok (t + 1) (if z_lt (t_2 pane other) 1 = 0 then ((s_sees u pane.toNatClampNeg a2 other.toNatClampNeg, u) : sR).2 else u) := by
  split
  · rename_i h0
    exact s_ok_mono (hok) (Nat.le_succ t)
  · exact s_ok_mono hok (Nat.le_succ t)
theorem so_would (hok : s_ok t u) {pane a2 : Int32} : s_ok (t + 1) (if z_lt (z_is pane 0 5) (z_is a2 0 3) = 0 then ((s_would u pane.toNatClampNeg a2, u) : sR).2 else u) := by
  split
  · rename_i h0
    exact s_ok_mono (hok) (Nat.le_succ t)
  · exact s_ok_mono hok (Nat.le_succ t)
theorem so_house (hok : s_ok t u) {a1 : Int32} : s_ok (t + 1) (if z_lt (z_is a1 0 8) 1 = 0 then ((s_house u a1, u) : sR).2 else u) := by
  split
  · rename_i h0
    exact s_ok_mono (hok) (Nat.le_succ t)
  · exact s_ok_mono hok (Nat.le_succ t)
end SO
end
section
/-! PART 67: the law's cases -/
theorem j_inc5 (j : Nat) : nI (5 * j) + 5 = nI (5 * (j + 1)) := by rw [show 5 * (j + 1) = 5 * j + 5 by omega]; exact nI_add (5 * j) 5
theorem lg_cmp_rf (x : Int64) : lg_cmp x x = 0 := by rw [lg_cmp_eq]
theorem dbL_law_220 : (decode cL_law 220 = .ok (.aload_n 1, 1)) ∧ (decode cL_law 221 = .ok (.aload_n 0, 1)) ∧ (decode cL_law 222 = .ok (.iload 4, 2)) ∧ (decode cL_law 224 = .ok (.iconst 1, 1)) ∧ (decode cL_law 225 = .ok (.iadd, 1)) ∧ (decode cL_law 226 = .ok (.iaload, 1)) ∧ (decode cL_law 227 = .ok (.aload_n 0, 1)) ∧ (decode cL_law 228 = .ok (.iload 4, 2)) ∧ (decode cL_law 230 = .ok (.iconst 2, 1)) ∧ (decode cL_law 231 = .ok (.iadd, 1)) := by decide +kernel
theorem dL_law_220 : decode cL_law 220 = .ok (.aload_n 1, 1) := dbL_law_220.1
theorem dL_law_221 : decode cL_law 221 = .ok (.aload_n 0, 1) := dbL_law_220.2.1
theorem dL_law_222 : decode cL_law 222 = .ok (.iload 4, 2) := dbL_law_220.2.2.1
theorem dL_law_224 : decode cL_law 224 = .ok (.iconst 1, 1) := dbL_law_220.2.2.2.1
theorem dL_law_225 : decode cL_law 225 = .ok (.iadd, 1) := dbL_law_220.2.2.2.2.1
theorem dL_law_226 : decode cL_law 226 = .ok (.iaload, 1) := dbL_law_220.2.2.2.2.2.1
theorem dL_law_227 : decode cL_law 227 = .ok (.aload_n 0, 1) := dbL_law_220.2.2.2.2.2.2.1
theorem dL_law_228 : decode cL_law 228 = .ok (.iload 4, 2) := dbL_law_220.2.2.2.2.2.2.2.1
theorem dL_law_230 : decode cL_law 230 = .ok (.iconst 2, 1) := dbL_law_220.2.2.2.2.2.2.2.2.1
theorem dL_law_231 : decode cL_law 231 = .ok (.iadd, 1) := dbL_law_220.2.2.2.2.2.2.2.2.2
theorem dbL_law_232 : (decode cL_law 232 = .ok (.iaload, 1)) ∧ (decode cL_law 233 = .ok (.aload_n 0, 1)) ∧ (decode cL_law 234 = .ok (.iload 4, 2)) ∧ (decode cL_law 236 = .ok (.iconst 3, 1)) ∧ (decode cL_law 237 = .ok (.iadd, 1)) ∧ (decode cL_law 238 = .ok (.iaload, 1)) ∧ (decode cL_law 239 = .ok (.aload_n 3, 1)) ∧ (decode cL_law 240 = .ok (.invokestatic 144, 3)) ∧ (decode cL_law 243 = .ok (.istore 5, 2)) ∧ (decode cL_law 245 = .ok (.aload_n 2, 1)) := by decide +kernel
theorem dL_law_232 : decode cL_law 232 = .ok (.iaload, 1) := dbL_law_232.1
theorem dL_law_233 : decode cL_law 233 = .ok (.aload_n 0, 1) := dbL_law_232.2.1
theorem dL_law_234 : decode cL_law 234 = .ok (.iload 4, 2) := dbL_law_232.2.2.1
theorem dL_law_236 : decode cL_law 236 = .ok (.iconst 3, 1) := dbL_law_232.2.2.2.1
theorem dL_law_237 : decode cL_law 237 = .ok (.iadd, 1) := dbL_law_232.2.2.2.2.1
theorem dL_law_238 : decode cL_law 238 = .ok (.iaload, 1) := dbL_law_232.2.2.2.2.2.1
theorem dL_law_239 : decode cL_law 239 = .ok (.aload_n 3, 1) := dbL_law_232.2.2.2.2.2.2.1
theorem dL_law_240 : decode cL_law 240 = .ok (.invokestatic 144, 3) := dbL_law_232.2.2.2.2.2.2.2.1
theorem dL_law_243 : decode cL_law 243 = .ok (.istore 5, 2) := dbL_law_232.2.2.2.2.2.2.2.2.1
theorem dL_law_245 : decode cL_law 245 = .ok (.aload_n 2, 1) := dbL_law_232.2.2.2.2.2.2.2.2.2
theorem dbL_law_246 : (decode cL_law 246 = .ok (.aload_n 0, 1)) ∧ (decode cL_law 247 = .ok (.iload 4, 2)) ∧ (decode cL_law 249 = .ok (.iconst 1, 1)) ∧ (decode cL_law 250 = .ok (.iadd, 1)) ∧ (decode cL_law 251 = .ok (.iaload, 1)) ∧ (decode cL_law 252 = .ok (.aload_n 0, 1)) ∧ (decode cL_law 253 = .ok (.iload 4, 2)) ∧ (decode cL_law 255 = .ok (.iconst 2, 1)) ∧ (decode cL_law 256 = .ok (.iadd, 1)) ∧ (decode cL_law 257 = .ok (.iaload, 1)) := by decide +kernel
theorem dL_law_246 : decode cL_law 246 = .ok (.aload_n 0, 1) := dbL_law_246.1
theorem dL_law_247 : decode cL_law 247 = .ok (.iload 4, 2) := dbL_law_246.2.1
theorem dL_law_249 : decode cL_law 249 = .ok (.iconst 1, 1) := dbL_law_246.2.2.1
theorem dL_law_250 : decode cL_law 250 = .ok (.iadd, 1) := dbL_law_246.2.2.2.1
theorem dL_law_251 : decode cL_law 251 = .ok (.iaload, 1) := dbL_law_246.2.2.2.2.1
theorem dL_law_252 : decode cL_law 252 = .ok (.aload_n 0, 1) := dbL_law_246.2.2.2.2.2.1
theorem dL_law_253 : decode cL_law 253 = .ok (.iload 4, 2) := dbL_law_246.2.2.2.2.2.2.1
theorem dL_law_255 : decode cL_law 255 = .ok (.iconst 2, 1) := dbL_law_246.2.2.2.2.2.2.2.1
theorem dL_law_256 : decode cL_law 256 = .ok (.iadd, 1) := dbL_law_246.2.2.2.2.2.2.2.2.1
theorem dL_law_257 : decode cL_law 257 = .ok (.iaload, 1) := dbL_law_246.2.2.2.2.2.2.2.2.2
theorem dbL_law_258 : (decode cL_law 258 = .ok (.aload_n 0, 1)) ∧ (decode cL_law 259 = .ok (.iload 4, 2)) ∧ (decode cL_law 261 = .ok (.iconst 3, 1)) ∧ (decode cL_law 262 = .ok (.iadd, 1)) ∧ (decode cL_law 263 = .ok (.iaload, 1)) ∧ (decode cL_law 264 = .ok (.invokevirtual 149, 3)) ∧ (decode cL_law 267 = .ok (.istore 6, 2)) ∧ (decode cL_law 269 = .ok (.goto 1488, 3)) ∧ (decode cL_law 272 = .ok (.aload_n 1, 1)) ∧ (decode cL_law 273 = .ok (.aload_n 0, 1)) := by decide +kernel
theorem dL_law_258 : decode cL_law 258 = .ok (.aload_n 0, 1) := dbL_law_258.1
theorem dL_law_259 : decode cL_law 259 = .ok (.iload 4, 2) := dbL_law_258.2.1
theorem dL_law_261 : decode cL_law 261 = .ok (.iconst 3, 1) := dbL_law_258.2.2.1
theorem dL_law_262 : decode cL_law 262 = .ok (.iadd, 1) := dbL_law_258.2.2.2.1
theorem dL_law_263 : decode cL_law 263 = .ok (.iaload, 1) := dbL_law_258.2.2.2.2.1
theorem dL_law_264 : decode cL_law 264 = .ok (.invokevirtual 149, 3) := dbL_law_258.2.2.2.2.2.1
theorem dL_law_267 : decode cL_law 267 = .ok (.istore 6, 2) := dbL_law_258.2.2.2.2.2.2.1
theorem dL_law_269 : decode cL_law 269 = .ok (.goto 1488, 3) := dbL_law_258.2.2.2.2.2.2.2.1
theorem dL_law_272 : decode cL_law 272 = .ok (.aload_n 1, 1) := dbL_law_258.2.2.2.2.2.2.2.2.1
theorem dL_law_273 : decode cL_law 273 = .ok (.aload_n 0, 1) := dbL_law_258.2.2.2.2.2.2.2.2.2
theorem dbL_law_274 : (decode cL_law 274 = .ok (.iload 4, 2)) ∧ (decode cL_law 276 = .ok (.iconst 1, 1)) ∧ (decode cL_law 277 = .ok (.iadd, 1)) ∧ (decode cL_law 278 = .ok (.iaload, 1)) ∧ (decode cL_law 279 = .ok (.aload_n 0, 1)) ∧ (decode cL_law 280 = .ok (.iload 4, 2)) ∧ (decode cL_law 282 = .ok (.iconst 2, 1)) ∧ (decode cL_law 283 = .ok (.iadd, 1)) ∧ (decode cL_law 284 = .ok (.iaload, 1)) ∧ (decode cL_law 285 = .ok (.aload_n 3, 1)) := by decide +kernel
theorem dL_law_274 : decode cL_law 274 = .ok (.iload 4, 2) := dbL_law_274.1
theorem dL_law_276 : decode cL_law 276 = .ok (.iconst 1, 1) := dbL_law_274.2.1
theorem dL_law_277 : decode cL_law 277 = .ok (.iadd, 1) := dbL_law_274.2.2.1
theorem dL_law_278 : decode cL_law 278 = .ok (.iaload, 1) := dbL_law_274.2.2.2.1
theorem dL_law_279 : decode cL_law 279 = .ok (.aload_n 0, 1) := dbL_law_274.2.2.2.2.1
theorem dL_law_280 : decode cL_law 280 = .ok (.iload 4, 2) := dbL_law_274.2.2.2.2.2.1
theorem dL_law_282 : decode cL_law 282 = .ok (.iconst 2, 1) := dbL_law_274.2.2.2.2.2.2.1
theorem dL_law_283 : decode cL_law 283 = .ok (.iadd, 1) := dbL_law_274.2.2.2.2.2.2.2.1
theorem dL_law_284 : decode cL_law 284 = .ok (.iaload, 1) := dbL_law_274.2.2.2.2.2.2.2.2.1
theorem dL_law_285 : decode cL_law 285 = .ok (.aload_n 3, 1) := dbL_law_274.2.2.2.2.2.2.2.2.2
theorem dbL_law_286 : (decode cL_law 286 = .ok (.invokestatic 150, 3)) ∧ (decode cL_law 289 = .ok (.istore 5, 2)) ∧ (decode cL_law 291 = .ok (.aload_n 2, 1)) ∧ (decode cL_law 292 = .ok (.aload_n 0, 1)) ∧ (decode cL_law 293 = .ok (.iload 4, 2)) ∧ (decode cL_law 295 = .ok (.iconst 1, 1)) ∧ (decode cL_law 296 = .ok (.iadd, 1)) ∧ (decode cL_law 297 = .ok (.iaload, 1)) ∧ (decode cL_law 298 = .ok (.aload_n 0, 1)) ∧ (decode cL_law 299 = .ok (.iload 4, 2)) := by decide +kernel
theorem dL_law_286 : decode cL_law 286 = .ok (.invokestatic 150, 3) := dbL_law_286.1
theorem dL_law_289 : decode cL_law 289 = .ok (.istore 5, 2) := dbL_law_286.2.1
theorem dL_law_291 : decode cL_law 291 = .ok (.aload_n 2, 1) := dbL_law_286.2.2.1
theorem dL_law_292 : decode cL_law 292 = .ok (.aload_n 0, 1) := dbL_law_286.2.2.2.1
theorem dL_law_293 : decode cL_law 293 = .ok (.iload 4, 2) := dbL_law_286.2.2.2.2.1
theorem dL_law_295 : decode cL_law 295 = .ok (.iconst 1, 1) := dbL_law_286.2.2.2.2.2.1
theorem dL_law_296 : decode cL_law 296 = .ok (.iadd, 1) := dbL_law_286.2.2.2.2.2.2.1
theorem dL_law_297 : decode cL_law 297 = .ok (.iaload, 1) := dbL_law_286.2.2.2.2.2.2.2.1
theorem dL_law_298 : decode cL_law 298 = .ok (.aload_n 0, 1) := dbL_law_286.2.2.2.2.2.2.2.2.1
theorem dL_law_299 : decode cL_law 299 = .ok (.iload 4, 2) := dbL_law_286.2.2.2.2.2.2.2.2.2
theorem dbL_law_301 : (decode cL_law 301 = .ok (.iconst 2, 1)) ∧ (decode cL_law 302 = .ok (.iadd, 1)) ∧ (decode cL_law 303 = .ok (.iaload, 1)) ∧ (decode cL_law 304 = .ok (.invokevirtual 153, 3)) ∧ (decode cL_law 307 = .ok (.istore 6, 2)) ∧ (decode cL_law 309 = .ok (.goto 1448, 3)) ∧ (decode cL_law 312 = .ok (.aload_n 1, 1)) ∧ (decode cL_law 313 = .ok (.aload_n 0, 1)) ∧ (decode cL_law 314 = .ok (.iload 4, 2)) ∧ (decode cL_law 316 = .ok (.iconst 1, 1)) := by decide +kernel
theorem dL_law_301 : decode cL_law 301 = .ok (.iconst 2, 1) := dbL_law_301.1
theorem dL_law_302 : decode cL_law 302 = .ok (.iadd, 1) := dbL_law_301.2.1
theorem dL_law_303 : decode cL_law 303 = .ok (.iaload, 1) := dbL_law_301.2.2.1
theorem dL_law_304 : decode cL_law 304 = .ok (.invokevirtual 153, 3) := dbL_law_301.2.2.2.1
theorem dL_law_307 : decode cL_law 307 = .ok (.istore 6, 2) := dbL_law_301.2.2.2.2.1
theorem dL_law_309 : decode cL_law 309 = .ok (.goto 1448, 3) := dbL_law_301.2.2.2.2.2.1
theorem dL_law_312 : decode cL_law 312 = .ok (.aload_n 1, 1) := dbL_law_301.2.2.2.2.2.2.1
theorem dL_law_313 : decode cL_law 313 = .ok (.aload_n 0, 1) := dbL_law_301.2.2.2.2.2.2.2.1
theorem dL_law_314 : decode cL_law 314 = .ok (.iload 4, 2) := dbL_law_301.2.2.2.2.2.2.2.2.1
theorem dL_law_316 : decode cL_law 316 = .ok (.iconst 1, 1) := dbL_law_301.2.2.2.2.2.2.2.2.2
theorem dbL_law_317 : (decode cL_law 317 = .ok (.iadd, 1)) ∧ (decode cL_law 318 = .ok (.iaload, 1)) ∧ (decode cL_law 319 = .ok (.aload_n 0, 1)) ∧ (decode cL_law 320 = .ok (.iload 4, 2)) ∧ (decode cL_law 322 = .ok (.iconst 2, 1)) ∧ (decode cL_law 323 = .ok (.iadd, 1)) ∧ (decode cL_law 324 = .ok (.iaload, 1)) ∧ (decode cL_law 325 = .ok (.aload_n 3, 1)) ∧ (decode cL_law 326 = .ok (.invokestatic 154, 3)) ∧ (decode cL_law 329 = .ok (.istore 5, 2)) := by decide +kernel
theorem dL_law_317 : decode cL_law 317 = .ok (.iadd, 1) := dbL_law_317.1
theorem dL_law_318 : decode cL_law 318 = .ok (.iaload, 1) := dbL_law_317.2.1
theorem dL_law_319 : decode cL_law 319 = .ok (.aload_n 0, 1) := dbL_law_317.2.2.1
theorem dL_law_320 : decode cL_law 320 = .ok (.iload 4, 2) := dbL_law_317.2.2.2.1
theorem dL_law_322 : decode cL_law 322 = .ok (.iconst 2, 1) := dbL_law_317.2.2.2.2.1
theorem dL_law_323 : decode cL_law 323 = .ok (.iadd, 1) := dbL_law_317.2.2.2.2.2.1
theorem dL_law_324 : decode cL_law 324 = .ok (.iaload, 1) := dbL_law_317.2.2.2.2.2.2.1
theorem dL_law_325 : decode cL_law 325 = .ok (.aload_n 3, 1) := dbL_law_317.2.2.2.2.2.2.2.1
theorem dL_law_326 : decode cL_law 326 = .ok (.invokestatic 154, 3) := dbL_law_317.2.2.2.2.2.2.2.2.1
theorem dL_law_329 : decode cL_law 329 = .ok (.istore 5, 2) := dbL_law_317.2.2.2.2.2.2.2.2.2
theorem dbL_law_331 : (decode cL_law 331 = .ok (.aload_n 2, 1)) ∧ (decode cL_law 332 = .ok (.aload_n 0, 1)) ∧ (decode cL_law 333 = .ok (.iload 4, 2)) ∧ (decode cL_law 335 = .ok (.iconst 1, 1)) ∧ (decode cL_law 336 = .ok (.iadd, 1)) ∧ (decode cL_law 337 = .ok (.iaload, 1)) ∧ (decode cL_law 338 = .ok (.aload_n 0, 1)) ∧ (decode cL_law 339 = .ok (.iload 4, 2)) ∧ (decode cL_law 341 = .ok (.iconst 2, 1)) ∧ (decode cL_law 342 = .ok (.iadd, 1)) := by decide +kernel
theorem dL_law_331 : decode cL_law 331 = .ok (.aload_n 2, 1) := dbL_law_331.1
theorem dL_law_332 : decode cL_law 332 = .ok (.aload_n 0, 1) := dbL_law_331.2.1
theorem dL_law_333 : decode cL_law 333 = .ok (.iload 4, 2) := dbL_law_331.2.2.1
theorem dL_law_335 : decode cL_law 335 = .ok (.iconst 1, 1) := dbL_law_331.2.2.2.1
theorem dL_law_336 : decode cL_law 336 = .ok (.iadd, 1) := dbL_law_331.2.2.2.2.1
theorem dL_law_337 : decode cL_law 337 = .ok (.iaload, 1) := dbL_law_331.2.2.2.2.2.1
theorem dL_law_338 : decode cL_law 338 = .ok (.aload_n 0, 1) := dbL_law_331.2.2.2.2.2.2.1
theorem dL_law_339 : decode cL_law 339 = .ok (.iload 4, 2) := dbL_law_331.2.2.2.2.2.2.2.1
theorem dL_law_341 : decode cL_law 341 = .ok (.iconst 2, 1) := dbL_law_331.2.2.2.2.2.2.2.2.1
theorem dL_law_342 : decode cL_law 342 = .ok (.iadd, 1) := dbL_law_331.2.2.2.2.2.2.2.2.2
theorem dbL_law_343 : (decode cL_law 343 = .ok (.iaload, 1)) ∧ (decode cL_law 344 = .ok (.invokevirtual 156, 3)) ∧ (decode cL_law 347 = .ok (.istore 6, 2)) ∧ (decode cL_law 349 = .ok (.goto 1408, 3)) ∧ (decode cL_law 352 = .ok (.aload_n 1, 1)) ∧ (decode cL_law 353 = .ok (.aload_n 0, 1)) ∧ (decode cL_law 354 = .ok (.iload 4, 2)) ∧ (decode cL_law 356 = .ok (.iconst 1, 1)) ∧ (decode cL_law 357 = .ok (.iadd, 1)) ∧ (decode cL_law 358 = .ok (.iaload, 1)) := by decide +kernel
theorem dL_law_343 : decode cL_law 343 = .ok (.iaload, 1) := dbL_law_343.1
theorem dL_law_344 : decode cL_law 344 = .ok (.invokevirtual 156, 3) := dbL_law_343.2.1
theorem dL_law_347 : decode cL_law 347 = .ok (.istore 6, 2) := dbL_law_343.2.2.1
theorem dL_law_349 : decode cL_law 349 = .ok (.goto 1408, 3) := dbL_law_343.2.2.2.1
theorem dL_law_352 : decode cL_law 352 = .ok (.aload_n 1, 1) := dbL_law_343.2.2.2.2.1
theorem dL_law_353 : decode cL_law 353 = .ok (.aload_n 0, 1) := dbL_law_343.2.2.2.2.2.1
theorem dL_law_354 : decode cL_law 354 = .ok (.iload 4, 2) := dbL_law_343.2.2.2.2.2.2.1
theorem dL_law_356 : decode cL_law 356 = .ok (.iconst 1, 1) := dbL_law_343.2.2.2.2.2.2.2.1
theorem dL_law_357 : decode cL_law 357 = .ok (.iadd, 1) := dbL_law_343.2.2.2.2.2.2.2.2.1
theorem dL_law_358 : decode cL_law 358 = .ok (.iaload, 1) := dbL_law_343.2.2.2.2.2.2.2.2.2
theorem dbL_law_359 : (decode cL_law 359 = .ok (.aload_n 0, 1)) ∧ (decode cL_law 360 = .ok (.iload 4, 2)) ∧ (decode cL_law 362 = .ok (.iconst 2, 1)) ∧ (decode cL_law 363 = .ok (.iadd, 1)) ∧ (decode cL_law 364 = .ok (.iaload, 1)) ∧ (decode cL_law 365 = .ok (.aload_n 3, 1)) ∧ (decode cL_law 366 = .ok (.invokestatic 157, 3)) ∧ (decode cL_law 369 = .ok (.istore 5, 2)) ∧ (decode cL_law 371 = .ok (.aload_n 2, 1)) ∧ (decode cL_law 372 = .ok (.aload_n 0, 1)) := by decide +kernel
theorem dL_law_359 : decode cL_law 359 = .ok (.aload_n 0, 1) := dbL_law_359.1
theorem dL_law_360 : decode cL_law 360 = .ok (.iload 4, 2) := dbL_law_359.2.1
theorem dL_law_362 : decode cL_law 362 = .ok (.iconst 2, 1) := dbL_law_359.2.2.1
theorem dL_law_363 : decode cL_law 363 = .ok (.iadd, 1) := dbL_law_359.2.2.2.1
theorem dL_law_364 : decode cL_law 364 = .ok (.iaload, 1) := dbL_law_359.2.2.2.2.1
theorem dL_law_365 : decode cL_law 365 = .ok (.aload_n 3, 1) := dbL_law_359.2.2.2.2.2.1
theorem dL_law_366 : decode cL_law 366 = .ok (.invokestatic 157, 3) := dbL_law_359.2.2.2.2.2.2.1
theorem dL_law_369 : decode cL_law 369 = .ok (.istore 5, 2) := dbL_law_359.2.2.2.2.2.2.2.1
theorem dL_law_371 : decode cL_law 371 = .ok (.aload_n 2, 1) := dbL_law_359.2.2.2.2.2.2.2.2.1
theorem dL_law_372 : decode cL_law 372 = .ok (.aload_n 0, 1) := dbL_law_359.2.2.2.2.2.2.2.2.2
theorem dbL_law_373 : (decode cL_law 373 = .ok (.iload 4, 2)) ∧ (decode cL_law 375 = .ok (.iconst 1, 1)) ∧ (decode cL_law 376 = .ok (.iadd, 1)) ∧ (decode cL_law 377 = .ok (.iaload, 1)) ∧ (decode cL_law 378 = .ok (.aload_n 0, 1)) ∧ (decode cL_law 379 = .ok (.iload 4, 2)) ∧ (decode cL_law 381 = .ok (.iconst 2, 1)) ∧ (decode cL_law 382 = .ok (.iadd, 1)) ∧ (decode cL_law 383 = .ok (.iaload, 1)) ∧ (decode cL_law 384 = .ok (.invokevirtual 159, 3)) := by decide +kernel
theorem dL_law_373 : decode cL_law 373 = .ok (.iload 4, 2) := dbL_law_373.1
theorem dL_law_375 : decode cL_law 375 = .ok (.iconst 1, 1) := dbL_law_373.2.1
theorem dL_law_376 : decode cL_law 376 = .ok (.iadd, 1) := dbL_law_373.2.2.1
theorem dL_law_377 : decode cL_law 377 = .ok (.iaload, 1) := dbL_law_373.2.2.2.1
theorem dL_law_378 : decode cL_law 378 = .ok (.aload_n 0, 1) := dbL_law_373.2.2.2.2.1
theorem dL_law_379 : decode cL_law 379 = .ok (.iload 4, 2) := dbL_law_373.2.2.2.2.2.1
theorem dL_law_381 : decode cL_law 381 = .ok (.iconst 2, 1) := dbL_law_373.2.2.2.2.2.2.1
theorem dL_law_382 : decode cL_law 382 = .ok (.iadd, 1) := dbL_law_373.2.2.2.2.2.2.2.1
theorem dL_law_383 : decode cL_law 383 = .ok (.iaload, 1) := dbL_law_373.2.2.2.2.2.2.2.2.1
theorem dL_law_384 : decode cL_law 384 = .ok (.invokevirtual 159, 3) := dbL_law_373.2.2.2.2.2.2.2.2.2
theorem dbL_law_387 : (decode cL_law 387 = .ok (.istore 6, 2)) ∧ (decode cL_law 389 = .ok (.goto 1368, 3)) ∧ (decode cL_law 392 = .ok (.aload_n 1, 1)) ∧ (decode cL_law 393 = .ok (.aload_n 0, 1)) ∧ (decode cL_law 394 = .ok (.iload 4, 2)) ∧ (decode cL_law 396 = .ok (.iconst 1, 1)) ∧ (decode cL_law 397 = .ok (.iadd, 1)) ∧ (decode cL_law 398 = .ok (.iaload, 1)) ∧ (decode cL_law 399 = .ok (.aload_n 0, 1)) ∧ (decode cL_law 400 = .ok (.iload 4, 2)) := by decide +kernel
theorem dL_law_387 : decode cL_law 387 = .ok (.istore 6, 2) := dbL_law_387.1
theorem dL_law_389 : decode cL_law 389 = .ok (.goto 1368, 3) := dbL_law_387.2.1
theorem dL_law_392 : decode cL_law 392 = .ok (.aload_n 1, 1) := dbL_law_387.2.2.1
theorem dL_law_393 : decode cL_law 393 = .ok (.aload_n 0, 1) := dbL_law_387.2.2.2.1
theorem dL_law_394 : decode cL_law 394 = .ok (.iload 4, 2) := dbL_law_387.2.2.2.2.1
theorem dL_law_396 : decode cL_law 396 = .ok (.iconst 1, 1) := dbL_law_387.2.2.2.2.2.1
theorem dL_law_397 : decode cL_law 397 = .ok (.iadd, 1) := dbL_law_387.2.2.2.2.2.2.1
theorem dL_law_398 : decode cL_law 398 = .ok (.iaload, 1) := dbL_law_387.2.2.2.2.2.2.2.1
theorem dL_law_399 : decode cL_law 399 = .ok (.aload_n 0, 1) := dbL_law_387.2.2.2.2.2.2.2.2.1
theorem dL_law_400 : decode cL_law 400 = .ok (.iload 4, 2) := dbL_law_387.2.2.2.2.2.2.2.2.2
theorem dbL_law_402 : (decode cL_law 402 = .ok (.iconst 2, 1)) ∧ (decode cL_law 403 = .ok (.iadd, 1)) ∧ (decode cL_law 404 = .ok (.iaload, 1)) ∧ (decode cL_law 405 = .ok (.aload_n 0, 1)) ∧ (decode cL_law 406 = .ok (.iload 4, 2)) ∧ (decode cL_law 408 = .ok (.iconst 3, 1)) ∧ (decode cL_law 409 = .ok (.iadd, 1)) ∧ (decode cL_law 410 = .ok (.iaload, 1)) ∧ (decode cL_law 411 = .ok (.aload_n 0, 1)) ∧ (decode cL_law 412 = .ok (.iload 4, 2)) := by decide +kernel
theorem dL_law_402 : decode cL_law 402 = .ok (.iconst 2, 1) := dbL_law_402.1
theorem dL_law_403 : decode cL_law 403 = .ok (.iadd, 1) := dbL_law_402.2.1
theorem dL_law_404 : decode cL_law 404 = .ok (.iaload, 1) := dbL_law_402.2.2.1
theorem dL_law_405 : decode cL_law 405 = .ok (.aload_n 0, 1) := dbL_law_402.2.2.2.1
theorem dL_law_406 : decode cL_law 406 = .ok (.iload 4, 2) := dbL_law_402.2.2.2.2.1
theorem dL_law_408 : decode cL_law 408 = .ok (.iconst 3, 1) := dbL_law_402.2.2.2.2.2.1
theorem dL_law_409 : decode cL_law 409 = .ok (.iadd, 1) := dbL_law_402.2.2.2.2.2.2.1
theorem dL_law_410 : decode cL_law 410 = .ok (.iaload, 1) := dbL_law_402.2.2.2.2.2.2.2.1
theorem dL_law_411 : decode cL_law 411 = .ok (.aload_n 0, 1) := dbL_law_402.2.2.2.2.2.2.2.2.1
theorem dL_law_412 : decode cL_law 412 = .ok (.iload 4, 2) := dbL_law_402.2.2.2.2.2.2.2.2.2
theorem dbL_law_414 : (decode cL_law 414 = .ok (.iconst 4, 1)) ∧ (decode cL_law 415 = .ok (.iadd, 1)) ∧ (decode cL_law 416 = .ok (.iaload, 1)) ∧ (decode cL_law 417 = .ok (.aload_n 3, 1)) ∧ (decode cL_law 418 = .ok (.invokestatic 160, 3)) ∧ (decode cL_law 421 = .ok (.istore 5, 2)) ∧ (decode cL_law 423 = .ok (.aload_n 2, 1)) ∧ (decode cL_law 424 = .ok (.aload_n 0, 1)) ∧ (decode cL_law 425 = .ok (.iload 4, 2)) ∧ (decode cL_law 427 = .ok (.iconst 1, 1)) := by decide +kernel
theorem dL_law_414 : decode cL_law 414 = .ok (.iconst 4, 1) := dbL_law_414.1
theorem dL_law_415 : decode cL_law 415 = .ok (.iadd, 1) := dbL_law_414.2.1
theorem dL_law_416 : decode cL_law 416 = .ok (.iaload, 1) := dbL_law_414.2.2.1
theorem dL_law_417 : decode cL_law 417 = .ok (.aload_n 3, 1) := dbL_law_414.2.2.2.1
theorem dL_law_418 : decode cL_law 418 = .ok (.invokestatic 160, 3) := dbL_law_414.2.2.2.2.1
theorem dL_law_421 : decode cL_law 421 = .ok (.istore 5, 2) := dbL_law_414.2.2.2.2.2.1
theorem dL_law_423 : decode cL_law 423 = .ok (.aload_n 2, 1) := dbL_law_414.2.2.2.2.2.2.1
theorem dL_law_424 : decode cL_law 424 = .ok (.aload_n 0, 1) := dbL_law_414.2.2.2.2.2.2.2.1
theorem dL_law_425 : decode cL_law 425 = .ok (.iload 4, 2) := dbL_law_414.2.2.2.2.2.2.2.2.1
theorem dL_law_427 : decode cL_law 427 = .ok (.iconst 1, 1) := dbL_law_414.2.2.2.2.2.2.2.2.2
theorem dbL_law_428 : (decode cL_law 428 = .ok (.iadd, 1)) ∧ (decode cL_law 429 = .ok (.iaload, 1)) ∧ (decode cL_law 430 = .ok (.aload_n 0, 1)) ∧ (decode cL_law 431 = .ok (.iload 4, 2)) ∧ (decode cL_law 433 = .ok (.iconst 2, 1)) ∧ (decode cL_law 434 = .ok (.iadd, 1)) ∧ (decode cL_law 435 = .ok (.iaload, 1)) ∧ (decode cL_law 436 = .ok (.aload_n 0, 1)) ∧ (decode cL_law 437 = .ok (.iload 4, 2)) ∧ (decode cL_law 439 = .ok (.iconst 3, 1)) := by decide +kernel
theorem dL_law_428 : decode cL_law 428 = .ok (.iadd, 1) := dbL_law_428.1
theorem dL_law_429 : decode cL_law 429 = .ok (.iaload, 1) := dbL_law_428.2.1
theorem dL_law_430 : decode cL_law 430 = .ok (.aload_n 0, 1) := dbL_law_428.2.2.1
theorem dL_law_431 : decode cL_law 431 = .ok (.iload 4, 2) := dbL_law_428.2.2.2.1
theorem dL_law_433 : decode cL_law 433 = .ok (.iconst 2, 1) := dbL_law_428.2.2.2.2.1
theorem dL_law_434 : decode cL_law 434 = .ok (.iadd, 1) := dbL_law_428.2.2.2.2.2.1
theorem dL_law_435 : decode cL_law 435 = .ok (.iaload, 1) := dbL_law_428.2.2.2.2.2.2.1
theorem dL_law_436 : decode cL_law 436 = .ok (.aload_n 0, 1) := dbL_law_428.2.2.2.2.2.2.2.1
theorem dL_law_437 : decode cL_law 437 = .ok (.iload 4, 2) := dbL_law_428.2.2.2.2.2.2.2.2.1
theorem dL_law_439 : decode cL_law 439 = .ok (.iconst 3, 1) := dbL_law_428.2.2.2.2.2.2.2.2.2
theorem dbL_law_440 : (decode cL_law 440 = .ok (.iadd, 1)) ∧ (decode cL_law 441 = .ok (.iaload, 1)) ∧ (decode cL_law 442 = .ok (.aload_n 0, 1)) ∧ (decode cL_law 443 = .ok (.iload 4, 2)) ∧ (decode cL_law 445 = .ok (.iconst 4, 1)) ∧ (decode cL_law 446 = .ok (.iadd, 1)) ∧ (decode cL_law 447 = .ok (.iaload, 1)) ∧ (decode cL_law 448 = .ok (.invokevirtual 163, 3)) ∧ (decode cL_law 451 = .ok (.istore 6, 2)) ∧ (decode cL_law 453 = .ok (.goto 1304, 3)) := by decide +kernel
theorem dL_law_440 : decode cL_law 440 = .ok (.iadd, 1) := dbL_law_440.1
theorem dL_law_441 : decode cL_law 441 = .ok (.iaload, 1) := dbL_law_440.2.1
theorem dL_law_442 : decode cL_law 442 = .ok (.aload_n 0, 1) := dbL_law_440.2.2.1
theorem dL_law_443 : decode cL_law 443 = .ok (.iload 4, 2) := dbL_law_440.2.2.2.1
theorem dL_law_445 : decode cL_law 445 = .ok (.iconst 4, 1) := dbL_law_440.2.2.2.2.1
theorem dL_law_446 : decode cL_law 446 = .ok (.iadd, 1) := dbL_law_440.2.2.2.2.2.1
theorem dL_law_447 : decode cL_law 447 = .ok (.iaload, 1) := dbL_law_440.2.2.2.2.2.2.1
theorem dL_law_448 : decode cL_law 448 = .ok (.invokevirtual 163, 3) := dbL_law_440.2.2.2.2.2.2.2.1
theorem dL_law_451 : decode cL_law 451 = .ok (.istore 6, 2) := dbL_law_440.2.2.2.2.2.2.2.2.1
theorem dL_law_453 : decode cL_law 453 = .ok (.goto 1304, 3) := dbL_law_440.2.2.2.2.2.2.2.2.2
theorem dbL_law_456 : (decode cL_law 456 = .ok (.aload_n 1, 1)) ∧ (decode cL_law 457 = .ok (.aload_n 0, 1)) ∧ (decode cL_law 458 = .ok (.iload 4, 2)) ∧ (decode cL_law 460 = .ok (.iconst 1, 1)) ∧ (decode cL_law 461 = .ok (.iadd, 1)) ∧ (decode cL_law 462 = .ok (.iaload, 1)) ∧ (decode cL_law 463 = .ok (.aload_n 0, 1)) ∧ (decode cL_law 464 = .ok (.iload 4, 2)) ∧ (decode cL_law 466 = .ok (.iconst 2, 1)) ∧ (decode cL_law 467 = .ok (.iadd, 1)) := by decide +kernel
theorem dL_law_456 : decode cL_law 456 = .ok (.aload_n 1, 1) := dbL_law_456.1
theorem dL_law_457 : decode cL_law 457 = .ok (.aload_n 0, 1) := dbL_law_456.2.1
theorem dL_law_458 : decode cL_law 458 = .ok (.iload 4, 2) := dbL_law_456.2.2.1
theorem dL_law_460 : decode cL_law 460 = .ok (.iconst 1, 1) := dbL_law_456.2.2.2.1
theorem dL_law_461 : decode cL_law 461 = .ok (.iadd, 1) := dbL_law_456.2.2.2.2.1
theorem dL_law_462 : decode cL_law 462 = .ok (.iaload, 1) := dbL_law_456.2.2.2.2.2.1
theorem dL_law_463 : decode cL_law 463 = .ok (.aload_n 0, 1) := dbL_law_456.2.2.2.2.2.2.1
theorem dL_law_464 : decode cL_law 464 = .ok (.iload 4, 2) := dbL_law_456.2.2.2.2.2.2.2.1
theorem dL_law_466 : decode cL_law 466 = .ok (.iconst 2, 1) := dbL_law_456.2.2.2.2.2.2.2.2.1
theorem dL_law_467 : decode cL_law 467 = .ok (.iadd, 1) := dbL_law_456.2.2.2.2.2.2.2.2.2
theorem dbL_law_468 : (decode cL_law 468 = .ok (.iaload, 1)) ∧ (decode cL_law 469 = .ok (.aload_n 3, 1)) ∧ (decode cL_law 470 = .ok (.invokestatic 164, 3)) ∧ (decode cL_law 473 = .ok (.istore 5, 2)) ∧ (decode cL_law 475 = .ok (.aload_n 2, 1)) ∧ (decode cL_law 476 = .ok (.aload_n 0, 1)) ∧ (decode cL_law 477 = .ok (.iload 4, 2)) ∧ (decode cL_law 479 = .ok (.iconst 1, 1)) ∧ (decode cL_law 480 = .ok (.iadd, 1)) ∧ (decode cL_law 481 = .ok (.iaload, 1)) := by decide +kernel
theorem dL_law_468 : decode cL_law 468 = .ok (.iaload, 1) := dbL_law_468.1
theorem dL_law_469 : decode cL_law 469 = .ok (.aload_n 3, 1) := dbL_law_468.2.1
theorem dL_law_470 : decode cL_law 470 = .ok (.invokestatic 164, 3) := dbL_law_468.2.2.1
theorem dL_law_473 : decode cL_law 473 = .ok (.istore 5, 2) := dbL_law_468.2.2.2.1
theorem dL_law_475 : decode cL_law 475 = .ok (.aload_n 2, 1) := dbL_law_468.2.2.2.2.1
theorem dL_law_476 : decode cL_law 476 = .ok (.aload_n 0, 1) := dbL_law_468.2.2.2.2.2.1
theorem dL_law_477 : decode cL_law 477 = .ok (.iload 4, 2) := dbL_law_468.2.2.2.2.2.2.1
theorem dL_law_479 : decode cL_law 479 = .ok (.iconst 1, 1) := dbL_law_468.2.2.2.2.2.2.2.1
theorem dL_law_480 : decode cL_law 480 = .ok (.iadd, 1) := dbL_law_468.2.2.2.2.2.2.2.2.1
theorem dL_law_481 : decode cL_law 481 = .ok (.iaload, 1) := dbL_law_468.2.2.2.2.2.2.2.2.2
theorem dbL_law_482 : (decode cL_law 482 = .ok (.aload_n 0, 1)) ∧ (decode cL_law 483 = .ok (.iload 4, 2)) ∧ (decode cL_law 485 = .ok (.iconst 2, 1)) ∧ (decode cL_law 486 = .ok (.iadd, 1)) ∧ (decode cL_law 487 = .ok (.iaload, 1)) ∧ (decode cL_law 488 = .ok (.invokevirtual 166, 3)) ∧ (decode cL_law 491 = .ok (.istore 6, 2)) ∧ (decode cL_law 493 = .ok (.goto 1264, 3)) ∧ (decode cL_law 496 = .ok (.aload_n 1, 1)) ∧ (decode cL_law 497 = .ok (.aload_n 0, 1)) := by decide +kernel
theorem dL_law_482 : decode cL_law 482 = .ok (.aload_n 0, 1) := dbL_law_482.1
theorem dL_law_483 : decode cL_law 483 = .ok (.iload 4, 2) := dbL_law_482.2.1
theorem dL_law_485 : decode cL_law 485 = .ok (.iconst 2, 1) := dbL_law_482.2.2.1
theorem dL_law_486 : decode cL_law 486 = .ok (.iadd, 1) := dbL_law_482.2.2.2.1
theorem dL_law_487 : decode cL_law 487 = .ok (.iaload, 1) := dbL_law_482.2.2.2.2.1
theorem dL_law_488 : decode cL_law 488 = .ok (.invokevirtual 166, 3) := dbL_law_482.2.2.2.2.2.1
theorem dL_law_491 : decode cL_law 491 = .ok (.istore 6, 2) := dbL_law_482.2.2.2.2.2.2.1
theorem dL_law_493 : decode cL_law 493 = .ok (.goto 1264, 3) := dbL_law_482.2.2.2.2.2.2.2.1
theorem dL_law_496 : decode cL_law 496 = .ok (.aload_n 1, 1) := dbL_law_482.2.2.2.2.2.2.2.2.1
theorem dL_law_497 : decode cL_law 497 = .ok (.aload_n 0, 1) := dbL_law_482.2.2.2.2.2.2.2.2.2
theorem dbL_law_498 : (decode cL_law 498 = .ok (.iload 4, 2)) ∧ (decode cL_law 500 = .ok (.iconst 1, 1)) ∧ (decode cL_law 501 = .ok (.iadd, 1)) ∧ (decode cL_law 502 = .ok (.iaload, 1)) ∧ (decode cL_law 503 = .ok (.aload_n 0, 1)) ∧ (decode cL_law 504 = .ok (.iload 4, 2)) ∧ (decode cL_law 506 = .ok (.iconst 2, 1)) ∧ (decode cL_law 507 = .ok (.iadd, 1)) ∧ (decode cL_law 508 = .ok (.iaload, 1)) ∧ (decode cL_law 509 = .ok (.aload_n 3, 1)) := by decide +kernel
theorem dL_law_498 : decode cL_law 498 = .ok (.iload 4, 2) := dbL_law_498.1
theorem dL_law_500 : decode cL_law 500 = .ok (.iconst 1, 1) := dbL_law_498.2.1
theorem dL_law_501 : decode cL_law 501 = .ok (.iadd, 1) := dbL_law_498.2.2.1
theorem dL_law_502 : decode cL_law 502 = .ok (.iaload, 1) := dbL_law_498.2.2.2.1
theorem dL_law_503 : decode cL_law 503 = .ok (.aload_n 0, 1) := dbL_law_498.2.2.2.2.1
theorem dL_law_504 : decode cL_law 504 = .ok (.iload 4, 2) := dbL_law_498.2.2.2.2.2.1
theorem dL_law_506 : decode cL_law 506 = .ok (.iconst 2, 1) := dbL_law_498.2.2.2.2.2.2.1
theorem dL_law_507 : decode cL_law 507 = .ok (.iadd, 1) := dbL_law_498.2.2.2.2.2.2.2.1
theorem dL_law_508 : decode cL_law 508 = .ok (.iaload, 1) := dbL_law_498.2.2.2.2.2.2.2.2.1
theorem dL_law_509 : decode cL_law 509 = .ok (.aload_n 3, 1) := dbL_law_498.2.2.2.2.2.2.2.2.2
theorem dbL_law_510 : (decode cL_law 510 = .ok (.invokestatic 167, 3)) ∧ (decode cL_law 513 = .ok (.istore 5, 2)) ∧ (decode cL_law 515 = .ok (.aload_n 2, 1)) ∧ (decode cL_law 516 = .ok (.aload_n 0, 1)) ∧ (decode cL_law 517 = .ok (.iload 4, 2)) ∧ (decode cL_law 519 = .ok (.iconst 1, 1)) ∧ (decode cL_law 520 = .ok (.iadd, 1)) ∧ (decode cL_law 521 = .ok (.iaload, 1)) ∧ (decode cL_law 522 = .ok (.aload_n 0, 1)) ∧ (decode cL_law 523 = .ok (.iload 4, 2)) := by decide +kernel
theorem dL_law_510 : decode cL_law 510 = .ok (.invokestatic 167, 3) := dbL_law_510.1
theorem dL_law_513 : decode cL_law 513 = .ok (.istore 5, 2) := dbL_law_510.2.1
theorem dL_law_515 : decode cL_law 515 = .ok (.aload_n 2, 1) := dbL_law_510.2.2.1
theorem dL_law_516 : decode cL_law 516 = .ok (.aload_n 0, 1) := dbL_law_510.2.2.2.1
theorem dL_law_517 : decode cL_law 517 = .ok (.iload 4, 2) := dbL_law_510.2.2.2.2.1
theorem dL_law_519 : decode cL_law 519 = .ok (.iconst 1, 1) := dbL_law_510.2.2.2.2.2.1
theorem dL_law_520 : decode cL_law 520 = .ok (.iadd, 1) := dbL_law_510.2.2.2.2.2.2.1
theorem dL_law_521 : decode cL_law 521 = .ok (.iaload, 1) := dbL_law_510.2.2.2.2.2.2.2.1
theorem dL_law_522 : decode cL_law 522 = .ok (.aload_n 0, 1) := dbL_law_510.2.2.2.2.2.2.2.2.1
theorem dL_law_523 : decode cL_law 523 = .ok (.iload 4, 2) := dbL_law_510.2.2.2.2.2.2.2.2.2
theorem dbL_law_525 : (decode cL_law 525 = .ok (.iconst 2, 1)) ∧ (decode cL_law 526 = .ok (.iadd, 1)) ∧ (decode cL_law 527 = .ok (.iaload, 1)) ∧ (decode cL_law 528 = .ok (.invokevirtual 169, 3)) ∧ (decode cL_law 531 = .ok (.istore 6, 2)) ∧ (decode cL_law 533 = .ok (.goto 1224, 3)) ∧ (decode cL_law 536 = .ok (.aload_n 1, 1)) ∧ (decode cL_law 537 = .ok (.aload_n 0, 1)) ∧ (decode cL_law 538 = .ok (.iload 4, 2)) ∧ (decode cL_law 540 = .ok (.iconst 1, 1)) := by decide +kernel
theorem dL_law_525 : decode cL_law 525 = .ok (.iconst 2, 1) := dbL_law_525.1
theorem dL_law_526 : decode cL_law 526 = .ok (.iadd, 1) := dbL_law_525.2.1
theorem dL_law_527 : decode cL_law 527 = .ok (.iaload, 1) := dbL_law_525.2.2.1
theorem dL_law_528 : decode cL_law 528 = .ok (.invokevirtual 169, 3) := dbL_law_525.2.2.2.1
theorem dL_law_531 : decode cL_law 531 = .ok (.istore 6, 2) := dbL_law_525.2.2.2.2.1
theorem dL_law_533 : decode cL_law 533 = .ok (.goto 1224, 3) := dbL_law_525.2.2.2.2.2.1
theorem dL_law_536 : decode cL_law 536 = .ok (.aload_n 1, 1) := dbL_law_525.2.2.2.2.2.2.1
theorem dL_law_537 : decode cL_law 537 = .ok (.aload_n 0, 1) := dbL_law_525.2.2.2.2.2.2.2.1
theorem dL_law_538 : decode cL_law 538 = .ok (.iload 4, 2) := dbL_law_525.2.2.2.2.2.2.2.2.1
theorem dL_law_540 : decode cL_law 540 = .ok (.iconst 1, 1) := dbL_law_525.2.2.2.2.2.2.2.2.2
theorem dbL_law_541 : (decode cL_law 541 = .ok (.iadd, 1)) ∧ (decode cL_law 542 = .ok (.iaload, 1)) ∧ (decode cL_law 543 = .ok (.aload_n 0, 1)) ∧ (decode cL_law 544 = .ok (.iload 4, 2)) ∧ (decode cL_law 546 = .ok (.iconst 2, 1)) ∧ (decode cL_law 547 = .ok (.iadd, 1)) ∧ (decode cL_law 548 = .ok (.iaload, 1)) ∧ (decode cL_law 549 = .ok (.aload_n 3, 1)) ∧ (decode cL_law 550 = .ok (.invokestatic 170, 3)) ∧ (decode cL_law 553 = .ok (.istore 5, 2)) := by decide +kernel
theorem dL_law_541 : decode cL_law 541 = .ok (.iadd, 1) := dbL_law_541.1
theorem dL_law_542 : decode cL_law 542 = .ok (.iaload, 1) := dbL_law_541.2.1
theorem dL_law_543 : decode cL_law 543 = .ok (.aload_n 0, 1) := dbL_law_541.2.2.1
theorem dL_law_544 : decode cL_law 544 = .ok (.iload 4, 2) := dbL_law_541.2.2.2.1
theorem dL_law_546 : decode cL_law 546 = .ok (.iconst 2, 1) := dbL_law_541.2.2.2.2.1
theorem dL_law_547 : decode cL_law 547 = .ok (.iadd, 1) := dbL_law_541.2.2.2.2.2.1
theorem dL_law_548 : decode cL_law 548 = .ok (.iaload, 1) := dbL_law_541.2.2.2.2.2.2.1
theorem dL_law_549 : decode cL_law 549 = .ok (.aload_n 3, 1) := dbL_law_541.2.2.2.2.2.2.2.1
theorem dL_law_550 : decode cL_law 550 = .ok (.invokestatic 170, 3) := dbL_law_541.2.2.2.2.2.2.2.2.1
theorem dL_law_553 : decode cL_law 553 = .ok (.istore 5, 2) := dbL_law_541.2.2.2.2.2.2.2.2.2
theorem dbL_law_555 : (decode cL_law 555 = .ok (.aload_n 2, 1)) ∧ (decode cL_law 556 = .ok (.aload_n 0, 1)) ∧ (decode cL_law 557 = .ok (.iload 4, 2)) ∧ (decode cL_law 559 = .ok (.iconst 1, 1)) ∧ (decode cL_law 560 = .ok (.iadd, 1)) ∧ (decode cL_law 561 = .ok (.iaload, 1)) ∧ (decode cL_law 562 = .ok (.aload_n 0, 1)) ∧ (decode cL_law 563 = .ok (.iload 4, 2)) ∧ (decode cL_law 565 = .ok (.iconst 2, 1)) ∧ (decode cL_law 566 = .ok (.iadd, 1)) := by decide +kernel
theorem dL_law_555 : decode cL_law 555 = .ok (.aload_n 2, 1) := dbL_law_555.1
theorem dL_law_556 : decode cL_law 556 = .ok (.aload_n 0, 1) := dbL_law_555.2.1
theorem dL_law_557 : decode cL_law 557 = .ok (.iload 4, 2) := dbL_law_555.2.2.1
theorem dL_law_559 : decode cL_law 559 = .ok (.iconst 1, 1) := dbL_law_555.2.2.2.1
theorem dL_law_560 : decode cL_law 560 = .ok (.iadd, 1) := dbL_law_555.2.2.2.2.1
theorem dL_law_561 : decode cL_law 561 = .ok (.iaload, 1) := dbL_law_555.2.2.2.2.2.1
theorem dL_law_562 : decode cL_law 562 = .ok (.aload_n 0, 1) := dbL_law_555.2.2.2.2.2.2.1
theorem dL_law_563 : decode cL_law 563 = .ok (.iload 4, 2) := dbL_law_555.2.2.2.2.2.2.2.1
theorem dL_law_565 : decode cL_law 565 = .ok (.iconst 2, 1) := dbL_law_555.2.2.2.2.2.2.2.2.1
theorem dL_law_566 : decode cL_law 566 = .ok (.iadd, 1) := dbL_law_555.2.2.2.2.2.2.2.2.2
theorem dbL_law_567 : (decode cL_law 567 = .ok (.iaload, 1)) ∧ (decode cL_law 568 = .ok (.invokevirtual 172, 3)) ∧ (decode cL_law 571 = .ok (.istore 6, 2)) ∧ (decode cL_law 573 = .ok (.goto 1184, 3)) ∧ (decode cL_law 576 = .ok (.aload_n 1, 1)) ∧ (decode cL_law 577 = .ok (.aload_n 0, 1)) ∧ (decode cL_law 578 = .ok (.iload 4, 2)) ∧ (decode cL_law 580 = .ok (.iconst 1, 1)) ∧ (decode cL_law 581 = .ok (.iadd, 1)) ∧ (decode cL_law 582 = .ok (.iaload, 1)) := by decide +kernel
theorem dL_law_567 : decode cL_law 567 = .ok (.iaload, 1) := dbL_law_567.1
theorem dL_law_568 : decode cL_law 568 = .ok (.invokevirtual 172, 3) := dbL_law_567.2.1
theorem dL_law_571 : decode cL_law 571 = .ok (.istore 6, 2) := dbL_law_567.2.2.1
theorem dL_law_573 : decode cL_law 573 = .ok (.goto 1184, 3) := dbL_law_567.2.2.2.1
theorem dL_law_576 : decode cL_law 576 = .ok (.aload_n 1, 1) := dbL_law_567.2.2.2.2.1
theorem dL_law_577 : decode cL_law 577 = .ok (.aload_n 0, 1) := dbL_law_567.2.2.2.2.2.1
theorem dL_law_578 : decode cL_law 578 = .ok (.iload 4, 2) := dbL_law_567.2.2.2.2.2.2.1
theorem dL_law_580 : decode cL_law 580 = .ok (.iconst 1, 1) := dbL_law_567.2.2.2.2.2.2.2.1
theorem dL_law_581 : decode cL_law 581 = .ok (.iadd, 1) := dbL_law_567.2.2.2.2.2.2.2.2.1
theorem dL_law_582 : decode cL_law 582 = .ok (.iaload, 1) := dbL_law_567.2.2.2.2.2.2.2.2.2
theorem dbL_law_583 : (decode cL_law 583 = .ok (.aload_n 0, 1)) ∧ (decode cL_law 584 = .ok (.iload 4, 2)) ∧ (decode cL_law 586 = .ok (.iconst 2, 1)) ∧ (decode cL_law 587 = .ok (.iadd, 1)) ∧ (decode cL_law 588 = .ok (.iaload, 1)) ∧ (decode cL_law 589 = .ok (.aload_n 3, 1)) ∧ (decode cL_law 590 = .ok (.invokestatic 173, 3)) ∧ (decode cL_law 593 = .ok (.istore 5, 2)) ∧ (decode cL_law 595 = .ok (.aload_n 2, 1)) ∧ (decode cL_law 596 = .ok (.aload_n 0, 1)) := by decide +kernel
theorem dL_law_583 : decode cL_law 583 = .ok (.aload_n 0, 1) := dbL_law_583.1
theorem dL_law_584 : decode cL_law 584 = .ok (.iload 4, 2) := dbL_law_583.2.1
theorem dL_law_586 : decode cL_law 586 = .ok (.iconst 2, 1) := dbL_law_583.2.2.1
theorem dL_law_587 : decode cL_law 587 = .ok (.iadd, 1) := dbL_law_583.2.2.2.1
theorem dL_law_588 : decode cL_law 588 = .ok (.iaload, 1) := dbL_law_583.2.2.2.2.1
theorem dL_law_589 : decode cL_law 589 = .ok (.aload_n 3, 1) := dbL_law_583.2.2.2.2.2.1
theorem dL_law_590 : decode cL_law 590 = .ok (.invokestatic 173, 3) := dbL_law_583.2.2.2.2.2.2.1
theorem dL_law_593 : decode cL_law 593 = .ok (.istore 5, 2) := dbL_law_583.2.2.2.2.2.2.2.1
theorem dL_law_595 : decode cL_law 595 = .ok (.aload_n 2, 1) := dbL_law_583.2.2.2.2.2.2.2.2.1
theorem dL_law_596 : decode cL_law 596 = .ok (.aload_n 0, 1) := dbL_law_583.2.2.2.2.2.2.2.2.2
theorem dbL_law_597 : (decode cL_law 597 = .ok (.iload 4, 2)) ∧ (decode cL_law 599 = .ok (.iconst 1, 1)) ∧ (decode cL_law 600 = .ok (.iadd, 1)) ∧ (decode cL_law 601 = .ok (.iaload, 1)) ∧ (decode cL_law 602 = .ok (.aload_n 0, 1)) ∧ (decode cL_law 603 = .ok (.iload 4, 2)) ∧ (decode cL_law 605 = .ok (.iconst 2, 1)) ∧ (decode cL_law 606 = .ok (.iadd, 1)) ∧ (decode cL_law 607 = .ok (.iaload, 1)) ∧ (decode cL_law 608 = .ok (.invokevirtual 175, 3)) := by decide +kernel
theorem dL_law_597 : decode cL_law 597 = .ok (.iload 4, 2) := dbL_law_597.1
theorem dL_law_599 : decode cL_law 599 = .ok (.iconst 1, 1) := dbL_law_597.2.1
theorem dL_law_600 : decode cL_law 600 = .ok (.iadd, 1) := dbL_law_597.2.2.1
theorem dL_law_601 : decode cL_law 601 = .ok (.iaload, 1) := dbL_law_597.2.2.2.1
theorem dL_law_602 : decode cL_law 602 = .ok (.aload_n 0, 1) := dbL_law_597.2.2.2.2.1
theorem dL_law_603 : decode cL_law 603 = .ok (.iload 4, 2) := dbL_law_597.2.2.2.2.2.1
theorem dL_law_605 : decode cL_law 605 = .ok (.iconst 2, 1) := dbL_law_597.2.2.2.2.2.2.1
theorem dL_law_606 : decode cL_law 606 = .ok (.iadd, 1) := dbL_law_597.2.2.2.2.2.2.2.1
theorem dL_law_607 : decode cL_law 607 = .ok (.iaload, 1) := dbL_law_597.2.2.2.2.2.2.2.2.1
theorem dL_law_608 : decode cL_law 608 = .ok (.invokevirtual 175, 3) := dbL_law_597.2.2.2.2.2.2.2.2.2
theorem dbL_law_611 : (decode cL_law 611 = .ok (.istore 6, 2)) ∧ (decode cL_law 613 = .ok (.goto 1144, 3)) ∧ (decode cL_law 616 = .ok (.aload_n 1, 1)) ∧ (decode cL_law 617 = .ok (.aload_n 0, 1)) ∧ (decode cL_law 618 = .ok (.iload 4, 2)) ∧ (decode cL_law 620 = .ok (.iconst 1, 1)) ∧ (decode cL_law 621 = .ok (.iadd, 1)) ∧ (decode cL_law 622 = .ok (.iaload, 1)) ∧ (decode cL_law 623 = .ok (.aload_n 0, 1)) ∧ (decode cL_law 624 = .ok (.iload 4, 2)) := by decide +kernel
theorem dL_law_611 : decode cL_law 611 = .ok (.istore 6, 2) := dbL_law_611.1
theorem dL_law_613 : decode cL_law 613 = .ok (.goto 1144, 3) := dbL_law_611.2.1
theorem dL_law_616 : decode cL_law 616 = .ok (.aload_n 1, 1) := dbL_law_611.2.2.1
theorem dL_law_617 : decode cL_law 617 = .ok (.aload_n 0, 1) := dbL_law_611.2.2.2.1
theorem dL_law_618 : decode cL_law 618 = .ok (.iload 4, 2) := dbL_law_611.2.2.2.2.1
theorem dL_law_620 : decode cL_law 620 = .ok (.iconst 1, 1) := dbL_law_611.2.2.2.2.2.1
theorem dL_law_621 : decode cL_law 621 = .ok (.iadd, 1) := dbL_law_611.2.2.2.2.2.2.1
theorem dL_law_622 : decode cL_law 622 = .ok (.iaload, 1) := dbL_law_611.2.2.2.2.2.2.2.1
theorem dL_law_623 : decode cL_law 623 = .ok (.aload_n 0, 1) := dbL_law_611.2.2.2.2.2.2.2.2.1
theorem dL_law_624 : decode cL_law 624 = .ok (.iload 4, 2) := dbL_law_611.2.2.2.2.2.2.2.2.2
theorem dbL_law_626 : (decode cL_law 626 = .ok (.iconst 2, 1)) ∧ (decode cL_law 627 = .ok (.iadd, 1)) ∧ (decode cL_law 628 = .ok (.iaload, 1)) ∧ (decode cL_law 629 = .ok (.aload_n 3, 1)) ∧ (decode cL_law 630 = .ok (.invokestatic 176, 3)) ∧ (decode cL_law 633 = .ok (.istore 5, 2)) ∧ (decode cL_law 635 = .ok (.aload_n 2, 1)) ∧ (decode cL_law 636 = .ok (.aload_n 0, 1)) ∧ (decode cL_law 637 = .ok (.iload 4, 2)) ∧ (decode cL_law 639 = .ok (.iconst 1, 1)) := by decide +kernel
theorem dL_law_626 : decode cL_law 626 = .ok (.iconst 2, 1) := dbL_law_626.1
theorem dL_law_627 : decode cL_law 627 = .ok (.iadd, 1) := dbL_law_626.2.1
theorem dL_law_628 : decode cL_law 628 = .ok (.iaload, 1) := dbL_law_626.2.2.1
theorem dL_law_629 : decode cL_law 629 = .ok (.aload_n 3, 1) := dbL_law_626.2.2.2.1
theorem dL_law_630 : decode cL_law 630 = .ok (.invokestatic 176, 3) := dbL_law_626.2.2.2.2.1
theorem dL_law_633 : decode cL_law 633 = .ok (.istore 5, 2) := dbL_law_626.2.2.2.2.2.1
theorem dL_law_635 : decode cL_law 635 = .ok (.aload_n 2, 1) := dbL_law_626.2.2.2.2.2.2.1
theorem dL_law_636 : decode cL_law 636 = .ok (.aload_n 0, 1) := dbL_law_626.2.2.2.2.2.2.2.1
theorem dL_law_637 : decode cL_law 637 = .ok (.iload 4, 2) := dbL_law_626.2.2.2.2.2.2.2.2.1
theorem dL_law_639 : decode cL_law 639 = .ok (.iconst 1, 1) := dbL_law_626.2.2.2.2.2.2.2.2.2
theorem dbL_law_640 : (decode cL_law 640 = .ok (.iadd, 1)) ∧ (decode cL_law 641 = .ok (.iaload, 1)) ∧ (decode cL_law 642 = .ok (.aload_n 0, 1)) ∧ (decode cL_law 643 = .ok (.iload 4, 2)) ∧ (decode cL_law 645 = .ok (.iconst 2, 1)) ∧ (decode cL_law 646 = .ok (.iadd, 1)) ∧ (decode cL_law 647 = .ok (.iaload, 1)) ∧ (decode cL_law 648 = .ok (.invokevirtual 178, 3)) ∧ (decode cL_law 651 = .ok (.istore 6, 2)) ∧ (decode cL_law 653 = .ok (.goto 1104, 3)) := by decide +kernel
theorem dL_law_640 : decode cL_law 640 = .ok (.iadd, 1) := dbL_law_640.1
theorem dL_law_641 : decode cL_law 641 = .ok (.iaload, 1) := dbL_law_640.2.1
theorem dL_law_642 : decode cL_law 642 = .ok (.aload_n 0, 1) := dbL_law_640.2.2.1
theorem dL_law_643 : decode cL_law 643 = .ok (.iload 4, 2) := dbL_law_640.2.2.2.1
theorem dL_law_645 : decode cL_law 645 = .ok (.iconst 2, 1) := dbL_law_640.2.2.2.2.1
theorem dL_law_646 : decode cL_law 646 = .ok (.iadd, 1) := dbL_law_640.2.2.2.2.2.1
theorem dL_law_647 : decode cL_law 647 = .ok (.iaload, 1) := dbL_law_640.2.2.2.2.2.2.1
theorem dL_law_648 : decode cL_law 648 = .ok (.invokevirtual 178, 3) := dbL_law_640.2.2.2.2.2.2.2.1
theorem dL_law_651 : decode cL_law 651 = .ok (.istore 6, 2) := dbL_law_640.2.2.2.2.2.2.2.2.1
theorem dL_law_653 : decode cL_law 653 = .ok (.goto 1104, 3) := dbL_law_640.2.2.2.2.2.2.2.2.2
theorem dbL_law_656 : (decode cL_law 656 = .ok (.aload_n 1, 1)) ∧ (decode cL_law 657 = .ok (.aload_n 0, 1)) ∧ (decode cL_law 658 = .ok (.iload 4, 2)) ∧ (decode cL_law 660 = .ok (.iconst 1, 1)) ∧ (decode cL_law 661 = .ok (.iadd, 1)) ∧ (decode cL_law 662 = .ok (.iaload, 1)) ∧ (decode cL_law 663 = .ok (.aload_n 0, 1)) ∧ (decode cL_law 664 = .ok (.iload 4, 2)) ∧ (decode cL_law 666 = .ok (.iconst 2, 1)) ∧ (decode cL_law 667 = .ok (.iadd, 1)) := by decide +kernel
theorem dL_law_656 : decode cL_law 656 = .ok (.aload_n 1, 1) := dbL_law_656.1
theorem dL_law_657 : decode cL_law 657 = .ok (.aload_n 0, 1) := dbL_law_656.2.1
theorem dL_law_658 : decode cL_law 658 = .ok (.iload 4, 2) := dbL_law_656.2.2.1
theorem dL_law_660 : decode cL_law 660 = .ok (.iconst 1, 1) := dbL_law_656.2.2.2.1
theorem dL_law_661 : decode cL_law 661 = .ok (.iadd, 1) := dbL_law_656.2.2.2.2.1
theorem dL_law_662 : decode cL_law 662 = .ok (.iaload, 1) := dbL_law_656.2.2.2.2.2.1
theorem dL_law_663 : decode cL_law 663 = .ok (.aload_n 0, 1) := dbL_law_656.2.2.2.2.2.2.1
theorem dL_law_664 : decode cL_law 664 = .ok (.iload 4, 2) := dbL_law_656.2.2.2.2.2.2.2.1
theorem dL_law_666 : decode cL_law 666 = .ok (.iconst 2, 1) := dbL_law_656.2.2.2.2.2.2.2.2.1
theorem dL_law_667 : decode cL_law 667 = .ok (.iadd, 1) := dbL_law_656.2.2.2.2.2.2.2.2.2
theorem dbL_law_668 : (decode cL_law 668 = .ok (.iaload, 1)) ∧ (decode cL_law 669 = .ok (.aload_n 3, 1)) ∧ (decode cL_law 670 = .ok (.invokestatic 179, 3)) ∧ (decode cL_law 673 = .ok (.istore 5, 2)) ∧ (decode cL_law 675 = .ok (.aload_n 2, 1)) ∧ (decode cL_law 676 = .ok (.aload_n 0, 1)) ∧ (decode cL_law 677 = .ok (.iload 4, 2)) ∧ (decode cL_law 679 = .ok (.iconst 1, 1)) ∧ (decode cL_law 680 = .ok (.iadd, 1)) ∧ (decode cL_law 681 = .ok (.iaload, 1)) := by decide +kernel
theorem dL_law_668 : decode cL_law 668 = .ok (.iaload, 1) := dbL_law_668.1
theorem dL_law_669 : decode cL_law 669 = .ok (.aload_n 3, 1) := dbL_law_668.2.1
theorem dL_law_670 : decode cL_law 670 = .ok (.invokestatic 179, 3) := dbL_law_668.2.2.1
theorem dL_law_673 : decode cL_law 673 = .ok (.istore 5, 2) := dbL_law_668.2.2.2.1
theorem dL_law_675 : decode cL_law 675 = .ok (.aload_n 2, 1) := dbL_law_668.2.2.2.2.1
theorem dL_law_676 : decode cL_law 676 = .ok (.aload_n 0, 1) := dbL_law_668.2.2.2.2.2.1
theorem dL_law_677 : decode cL_law 677 = .ok (.iload 4, 2) := dbL_law_668.2.2.2.2.2.2.1
theorem dL_law_679 : decode cL_law 679 = .ok (.iconst 1, 1) := dbL_law_668.2.2.2.2.2.2.2.1
theorem dL_law_680 : decode cL_law 680 = .ok (.iadd, 1) := dbL_law_668.2.2.2.2.2.2.2.2.1
theorem dL_law_681 : decode cL_law 681 = .ok (.iaload, 1) := dbL_law_668.2.2.2.2.2.2.2.2.2
theorem dbL_law_682 : (decode cL_law 682 = .ok (.aload_n 0, 1)) ∧ (decode cL_law 683 = .ok (.iload 4, 2)) ∧ (decode cL_law 685 = .ok (.iconst 2, 1)) ∧ (decode cL_law 686 = .ok (.iadd, 1)) ∧ (decode cL_law 687 = .ok (.iaload, 1)) ∧ (decode cL_law 688 = .ok (.invokevirtual 181, 3)) ∧ (decode cL_law 691 = .ok (.istore 6, 2)) ∧ (decode cL_law 693 = .ok (.goto 1064, 3)) ∧ (decode cL_law 1757 = .ok (.iinc 4 5, 3)) ∧ (decode cL_law 1760 = .ok (.goto (-1733), 3)) := by decide +kernel
theorem dL_law_682 : decode cL_law 682 = .ok (.aload_n 0, 1) := dbL_law_682.1
theorem dL_law_683 : decode cL_law 683 = .ok (.iload 4, 2) := dbL_law_682.2.1
theorem dL_law_685 : decode cL_law 685 = .ok (.iconst 2, 1) := dbL_law_682.2.2.1
theorem dL_law_686 : decode cL_law 686 = .ok (.iadd, 1) := dbL_law_682.2.2.2.1
theorem dL_law_687 : decode cL_law 687 = .ok (.iaload, 1) := dbL_law_682.2.2.2.2.1
theorem dL_law_688 : decode cL_law 688 = .ok (.invokevirtual 181, 3) := dbL_law_682.2.2.2.2.2.1
theorem dL_law_691 : decode cL_law 691 = .ok (.istore 6, 2) := dbL_law_682.2.2.2.2.2.2.1
theorem dL_law_693 : decode cL_law 693 = .ok (.goto 1064, 3) := dbL_law_682.2.2.2.2.2.2.2.1
theorem dL_law_1757 : decode cL_law 1757 = .ok (.iinc 4 5, 3) := dbL_law_682.2.2.2.2.2.2.2.2.1
theorem dL_law_1760 : decode cL_law 1760 = .ok (.goto (-1733), 3) := dbL_law_682.2.2.2.2.2.2.2.2.2
set_option maxRecDepth 20000 in
theorem lc_wrap {X : zX} (C : z_C X cL_law RL 7 room_1) (h_st : (z_l X).stackTraces = false) {b L : Nat} {xs : Nat → Int32} (hX : va_X b L xs (z_s X) (z_s X).heap) (hbl : b < (z_s X).heap.size) (hbA : ¬ z_F X b) {jx : Nat} {a1 a2 a3 a4 : Int32} (hs1 : vp_in (nI (5 * jx) + 1) L ∧ xs (nI (5 * jx) + 1).toNatClampNeg = a1) (hs2 : vp_in (nI (5 * jx) + 2) L ∧ xs (nI (5 * jx) + 2).toNatClampNeg = a2) (hs3 : vp_in (nI (5 * jx) + 3) L ∧ xs (nI (5 * jx) + 3).toNatClampNeg = a3) (hs4 : vp_in (nI (5 * jx) + 4) L ∧ xs (nI (5 * jx) + 4).toNatClampNeg = a4) {u : sS} {x pa sp ln rf sb m pn td ou : Nat} {th : Int32} {on : Int64} {Mw : zM} (hI : s_LX (z_G X) x pa sp ln rf sb m pn td ou u u th on Mw) (hok : s_ok jx u) (hj : jx < 64) {kq nq : Nat} (hkq : kq + 4000 ≤ 600128) (hnq : nq + 60000 ≤ 7301098) (kk : ∀ v th on Mz, s_LX (z_G X) x pa sp ln rf sb m pn td ou v v th on Mz → s_ok (jx + 1) v → z_W X Mz (kq + 4000) (nq + 60000) 27 [(4, .int (nI (5 * (jx + 1)))), (0, .ref b), (1, .ref x), (2, .ref m), (3, .ref ou)] []) : z_W X Mw kq nq 220 [(4, .int (nI (5 * jx))), (0, .ref b), (1, .ref x), (2, .ref m), (3, .ref ou)] [] := by
  refine z_aload_n C dL_law_220 rfl 2 rfl ?_
  refine z_aload_n C dL_law_221 rfl 1 rfl ?_
  refine z_iload C dL_law_222 0 rfl ?_
  refine z_iconst C (v := 1) dL_law_224 (by decide) ?_
  refine z_iadd C dL_law_225 ?_
  refine z_sld C hX hbl hbA hs1.1 hs1.2 dL_law_226 ?_
  refine z_aload_n C dL_law_227 rfl 1 rfl ?_
  refine z_iload C dL_law_228 0 rfl ?_
  refine z_iconst C (v := 2) dL_law_230 (by decide) ?_
  refine z_iadd C dL_law_231 ?_
  refine z_sld C hX hbl hbA hs2.1 hs2.2 dL_law_232 ?_
  refine z_aload_n C dL_law_233 rfl 1 rfl ?_
  refine z_iload C dL_law_234 0 rfl ?_
  refine z_iconst C (v := 3) dL_law_236 (by decide) ?_
  refine z_iadd C dL_law_237 ?_
  refine z_sld C hX hbl hbA hs3.1 hs3.2 dL_law_238 ?_
  refine z_aload_n C dL_law_239 rfl 4 rfl ?_
  refine z_callHi (rest := []) (k' := kq + 8) (n' := nq + 48) C (s_LX_P hI (fun hC9 hd9 ho9 => w_wrap (z_l X) h_st hC9 hd9 ho9 hok a1 a2 a3)) (ch_wrap C ⟨Nat.le_of_ble_eq_true rfl, Nat.le_of_ble_eq_true rfl⟩) rfl rfl (Nat.le_of_ble_eq_true rfl) rfl rfl (by show _ ≤ 600128; omega) (by show _ ≤ 7301098; omega) dL_law_240 (fun xk M1 hq => ?_)
  obtain ⟨hk1, on1, hI1, ho1⟩ := hq
  refine z_istore (lv' := [(5, .int xk), (4, .int (nI (5 * jx))), (0, .ref b), (1, .ref x), (2, .ref m), (3, .ref ou)]) C dL_law_243 (by decide) rfl ?_
  refine z_aload_n C dL_law_245 rfl 4 rfl ?_
  refine z_aload_n C dL_law_246 rfl 2 rfl ?_
  refine z_iload C dL_law_247 1 rfl ?_
  refine z_iconst C (v := 1) dL_law_249 (by decide) ?_
  refine z_iadd C dL_law_250 ?_
  refine z_sld C hX hbl hbA hs1.1 hs1.2 dL_law_251 ?_
  refine z_aload_n C dL_law_252 rfl 2 rfl ?_
  refine z_iload C dL_law_253 1 rfl ?_
  refine z_iconst C (v := 2) dL_law_255 (by decide) ?_
  refine z_iadd C dL_law_256 ?_
  refine z_sld C hX hbl hbA hs2.1 hs2.2 dL_law_257 ?_
  refine z_aload_n C dL_law_258 rfl 2 rfl ?_
  refine z_iload C dL_law_259 1 rfl ?_
  refine z_iconst C (v := 3) dL_law_261 (by decide) ?_
  refine z_iadd C dL_law_262 ?_
  refine z_sld C hX hbl hbA hs3.1 hs3.2 dL_law_263 ?_
  obtain ⟨tp9, hm9⟩ := s_LX_m hI1
  refine z_callVi (rest := []) (k' := kq + 8 + 1) (n' := nq + 48 + 8) C (s_LX_R hI1 (fun hR9 => a_X5_wrap (z_l X) hR9 hok (by omega) a1 a2 a3)) (cs_L_149 C ⟨Nat.le_of_ble_eq_true rfl, Nat.le_of_ble_eq_true rfl⟩) hm9 rfl rfl rfl rfl (Nat.le_of_ble_eq_true rfl) rfl rfl (by show _ ≤ 600128; omega) (by show _ ≤ 7301098; omega) dL_law_264 (fun xr M2 hq => ?_)
  obtain ⟨hI2, hr2⟩ := hq
  refine z_istore (lv' := [(6, .int xr), (5, .int xk), (4, .int (nI (5 * jx))), (0, .ref b), (1, .ref x), (2, .ref m), (3, .ref ou)]) C dL_law_267 (by decide) rfl ?_
  refine z_goto C (tgt := 1757) dL_law_269 (by decide) ?_
  refine z_iinc (v := nI (5 * (jx + 1))) (lv' := [(4, .int (nI (5 * (jx + 1)))), (6, .int xr), (5, .int xk), (0, .ref b), (1, .ref x), (2, .ref m), (3, .ref ou)]) C dL_law_1757 2 rfl (j_inc5 jx) (by decide) rfl ?_
  refine z_goto C (tgt := 27) dL_law_1760 (by decide) ?_
  refine z_fewer [0, 3, 4, 5, 6] rfl ?_
  refine z_widen (k' := kq + 4000) (n' := nq + 60000) (by omega) (by omega) ?_
  exact kk _ _ _ _ hI2 (so_wrap hok)
set_option maxRecDepth 20000 in
theorem lc_fresh {X : zX} (C : z_C X cL_law RL 7 room_1) (h_st : (z_l X).stackTraces = false) {b L : Nat} {xs : Nat → Int32} (hX : va_X b L xs (z_s X) (z_s X).heap) (hbl : b < (z_s X).heap.size) (hbA : ¬ z_F X b) {jx : Nat} {a1 a2 a3 a4 : Int32} (hs1 : vp_in (nI (5 * jx) + 1) L ∧ xs (nI (5 * jx) + 1).toNatClampNeg = a1) (hs2 : vp_in (nI (5 * jx) + 2) L ∧ xs (nI (5 * jx) + 2).toNatClampNeg = a2) (hs3 : vp_in (nI (5 * jx) + 3) L ∧ xs (nI (5 * jx) + 3).toNatClampNeg = a3) (hs4 : vp_in (nI (5 * jx) + 4) L ∧ xs (nI (5 * jx) + 4).toNatClampNeg = a4) {u : sS} {x pa sp ln rf sb m pn td ou : Nat} {th : Int32} {on : Int64} {Mw : zM} (hI : s_LX (z_G X) x pa sp ln rf sb m pn td ou u u th on Mw) (hok : s_ok jx u) (hj : jx < 64) {kq nq : Nat} (hkq : kq + 4000 ≤ 600128) (hnq : nq + 60000 ≤ 7301098) (kk : ∀ v th on Mz, s_LX (z_G X) x pa sp ln rf sb m pn td ou v v th on Mz → s_ok (jx + 1) v → z_W X Mz (kq + 4000) (nq + 60000) 27 [(4, .int (nI (5 * (jx + 1)))), (0, .ref b), (1, .ref x), (2, .ref m), (3, .ref ou)] []) : z_W X Mw kq nq 272 [(4, .int (nI (5 * jx))), (0, .ref b), (1, .ref x), (2, .ref m), (3, .ref ou)] [] := by
  refine z_aload_n C dL_law_272 rfl 2 rfl ?_
  refine z_aload_n C dL_law_273 rfl 1 rfl ?_
  refine z_iload C dL_law_274 0 rfl ?_
  refine z_iconst C (v := 1) dL_law_276 (by decide) ?_
  refine z_iadd C dL_law_277 ?_
  refine z_sld C hX hbl hbA hs1.1 hs1.2 dL_law_278 ?_
  refine z_aload_n C dL_law_279 rfl 1 rfl ?_
  refine z_iload C dL_law_280 0 rfl ?_
  refine z_iconst C (v := 2) dL_law_282 (by decide) ?_
  refine z_iadd C dL_law_283 ?_
  refine z_sld C hX hbl hbA hs2.1 hs2.2 dL_law_284 ?_
  refine z_aload_n C dL_law_285 rfl 4 rfl ?_
  refine z_callHi (rest := []) (k' := kq + 8) (n' := nq + 48) C (s_LX_P hI (fun hC9 hd9 ho9 => w_fresh (z_l X) h_st hC9 hd9 ho9 hok a1 a2)) (ch_fresh C ⟨Nat.le_of_ble_eq_true rfl, Nat.le_of_ble_eq_true rfl⟩) rfl rfl (Nat.le_of_ble_eq_true rfl) rfl rfl (by show _ ≤ 600128; omega) (by show _ ≤ 7301098; omega) dL_law_286 (fun xk M1 hq => ?_)
  obtain ⟨hk1, on1, hI1, ho1⟩ := hq
  refine z_istore (lv' := [(5, .int xk), (4, .int (nI (5 * jx))), (0, .ref b), (1, .ref x), (2, .ref m), (3, .ref ou)]) C dL_law_289 (by decide) rfl ?_
  refine z_aload_n C dL_law_291 rfl 4 rfl ?_
  refine z_aload_n C dL_law_292 rfl 2 rfl ?_
  refine z_iload C dL_law_293 1 rfl ?_
  refine z_iconst C (v := 1) dL_law_295 (by decide) ?_
  refine z_iadd C dL_law_296 ?_
  refine z_sld C hX hbl hbA hs1.1 hs1.2 dL_law_297 ?_
  refine z_aload_n C dL_law_298 rfl 2 rfl ?_
  refine z_iload C dL_law_299 1 rfl ?_
  refine z_iconst C (v := 2) dL_law_301 (by decide) ?_
  refine z_iadd C dL_law_302 ?_
  refine z_sld C hX hbl hbA hs2.1 hs2.2 dL_law_303 ?_
  obtain ⟨tp9, hm9⟩ := s_LX_m hI1
  refine z_callVi (rest := []) (k' := kq + 8 + 2) (n' := nq + 48 + 1000) C (s_LX_R hI1 (fun hR9 => a_X5_fresh (z_l X) hR9 hok (by omega) a1 a2)) (cs_L_153 C ⟨Nat.le_of_ble_eq_true rfl, Nat.le_of_ble_eq_true rfl⟩) hm9 rfl rfl rfl rfl (Nat.le_of_ble_eq_true rfl) rfl rfl (by show _ ≤ 600128; omega) (by show _ ≤ 7301098; omega) dL_law_304 (fun xr M2 hq => ?_)
  obtain ⟨hI2, hr2⟩ := hq
  refine z_istore (lv' := [(6, .int xr), (5, .int xk), (4, .int (nI (5 * jx))), (0, .ref b), (1, .ref x), (2, .ref m), (3, .ref ou)]) C dL_law_307 (by decide) rfl ?_
  refine z_goto C (tgt := 1757) dL_law_309 (by decide) ?_
  refine z_iinc (v := nI (5 * (jx + 1))) (lv' := [(4, .int (nI (5 * (jx + 1)))), (6, .int xr), (5, .int xk), (0, .ref b), (1, .ref x), (2, .ref m), (3, .ref ou)]) C dL_law_1757 2 rfl (j_inc5 jx) (by decide) rfl ?_
  refine z_goto C (tgt := 27) dL_law_1760 (by decide) ?_
  refine z_fewer [0, 3, 4, 5, 6] rfl ?_
  refine z_widen (k' := kq + 4000) (n' := nq + 60000) (by omega) (by omega) ?_
  exact kk _ _ _ _ hI2 (so_fresh hok)
set_option maxRecDepth 20000 in
theorem lc_twin {X : zX} (C : z_C X cL_law RL 7 room_1) (h_st : (z_l X).stackTraces = false) {b L : Nat} {xs : Nat → Int32} (hX : va_X b L xs (z_s X) (z_s X).heap) (hbl : b < (z_s X).heap.size) (hbA : ¬ z_F X b) {jx : Nat} {a1 a2 a3 a4 : Int32} (hs1 : vp_in (nI (5 * jx) + 1) L ∧ xs (nI (5 * jx) + 1).toNatClampNeg = a1) (hs2 : vp_in (nI (5 * jx) + 2) L ∧ xs (nI (5 * jx) + 2).toNatClampNeg = a2) (hs3 : vp_in (nI (5 * jx) + 3) L ∧ xs (nI (5 * jx) + 3).toNatClampNeg = a3) (hs4 : vp_in (nI (5 * jx) + 4) L ∧ xs (nI (5 * jx) + 4).toNatClampNeg = a4) {u : sS} {x pa sp ln rf sb m pn td ou : Nat} {th : Int32} {on : Int64} {Mw : zM} (hI : s_LX (z_G X) x pa sp ln rf sb m pn td ou u u th on Mw) (hok : s_ok jx u) (hj : jx < 64) {kq nq : Nat} (hkq : kq + 4000 ≤ 600128) (hnq : nq + 60000 ≤ 7301098) (kk : ∀ v th on Mz, s_LX (z_G X) x pa sp ln rf sb m pn td ou v v th on Mz → s_ok (jx + 1) v → z_W X Mz (kq + 4000) (nq + 60000) 27 [(4, .int (nI (5 * (jx + 1)))), (0, .ref b), (1, .ref x), (2, .ref m), (3, .ref ou)] []) : z_W X Mw kq nq 312 [(4, .int (nI (5 * jx))), (0, .ref b), (1, .ref x), (2, .ref m), (3, .ref ou)] [] := by
  refine z_aload_n C dL_law_312 rfl 2 rfl ?_
  refine z_aload_n C dL_law_313 rfl 1 rfl ?_
  refine z_iload C dL_law_314 0 rfl ?_
  refine z_iconst C (v := 1) dL_law_316 (by decide) ?_
  refine z_iadd C dL_law_317 ?_
  refine z_sld C hX hbl hbA hs1.1 hs1.2 dL_law_318 ?_
  refine z_aload_n C dL_law_319 rfl 1 rfl ?_
  refine z_iload C dL_law_320 0 rfl ?_
  refine z_iconst C (v := 2) dL_law_322 (by decide) ?_
  refine z_iadd C dL_law_323 ?_
  refine z_sld C hX hbl hbA hs2.1 hs2.2 dL_law_324 ?_
  refine z_aload_n C dL_law_325 rfl 4 rfl ?_
  refine z_callHi (rest := []) (k' := kq + 8) (n' := nq + 48) C (s_LX_P hI (fun hC9 hd9 ho9 => w_twin (z_l X) h_st hC9 hd9 ho9 hok a1 a2)) (ch_twin C ⟨Nat.le_of_ble_eq_true rfl, Nat.le_of_ble_eq_true rfl⟩) rfl rfl (Nat.le_of_ble_eq_true rfl) rfl rfl (by show _ ≤ 600128; omega) (by show _ ≤ 7301098; omega) dL_law_326 (fun xk M1 hq => ?_)
  obtain ⟨hk1, on1, hI1, ho1⟩ := hq
  refine z_istore (lv' := [(5, .int xk), (4, .int (nI (5 * jx))), (0, .ref b), (1, .ref x), (2, .ref m), (3, .ref ou)]) C dL_law_329 (by decide) rfl ?_
  refine z_aload_n C dL_law_331 rfl 4 rfl ?_
  refine z_aload_n C dL_law_332 rfl 2 rfl ?_
  refine z_iload C dL_law_333 1 rfl ?_
  refine z_iconst C (v := 1) dL_law_335 (by decide) ?_
  refine z_iadd C dL_law_336 ?_
  refine z_sld C hX hbl hbA hs1.1 hs1.2 dL_law_337 ?_
  refine z_aload_n C dL_law_338 rfl 2 rfl ?_
  refine z_iload C dL_law_339 1 rfl ?_
  refine z_iconst C (v := 2) dL_law_341 (by decide) ?_
  refine z_iadd C dL_law_342 ?_
  refine z_sld C hX hbl hbA hs2.1 hs2.2 dL_law_343 ?_
  obtain ⟨tp9, hm9⟩ := s_LX_m hI1
  refine z_callVi (rest := []) (k' := kq + 8 + 1) (n' := nq + 48 + 8) C (s_LX_R hI1 (fun hR9 => a_X5_twin (z_l X) hR9 hok (by omega) a1 a2)) (cs_L_156 C ⟨Nat.le_of_ble_eq_true rfl, Nat.le_of_ble_eq_true rfl⟩) hm9 rfl rfl rfl rfl (Nat.le_of_ble_eq_true rfl) rfl rfl (by show _ ≤ 600128; omega) (by show _ ≤ 7301098; omega) dL_law_344 (fun xr M2 hq => ?_)
  obtain ⟨hI2, hr2⟩ := hq
  refine z_istore (lv' := [(6, .int xr), (5, .int xk), (4, .int (nI (5 * jx))), (0, .ref b), (1, .ref x), (2, .ref m), (3, .ref ou)]) C dL_law_347 (by decide) rfl ?_
  refine z_goto C (tgt := 1757) dL_law_349 (by decide) ?_
  refine z_iinc (v := nI (5 * (jx + 1))) (lv' := [(4, .int (nI (5 * (jx + 1)))), (6, .int xr), (5, .int xk), (0, .ref b), (1, .ref x), (2, .ref m), (3, .ref ou)]) C dL_law_1757 2 rfl (j_inc5 jx) (by decide) rfl ?_
  refine z_goto C (tgt := 27) dL_law_1760 (by decide) ?_
  refine z_fewer [0, 3, 4, 5, 6] rfl ?_
  refine z_widen (k' := kq + 4000) (n' := nq + 60000) (by omega) (by omega) ?_
  exact kk _ _ _ _ hI2 (so_twin hok)
set_option maxRecDepth 20000 in
theorem lc_rest {X : zX} (C : z_C X cL_law RL 7 room_1) (h_st : (z_l X).stackTraces = false) {b L : Nat} {xs : Nat → Int32} (hX : va_X b L xs (z_s X) (z_s X).heap) (hbl : b < (z_s X).heap.size) (hbA : ¬ z_F X b) {jx : Nat} {a1 a2 a3 a4 : Int32} (hs1 : vp_in (nI (5 * jx) + 1) L ∧ xs (nI (5 * jx) + 1).toNatClampNeg = a1) (hs2 : vp_in (nI (5 * jx) + 2) L ∧ xs (nI (5 * jx) + 2).toNatClampNeg = a2) (hs3 : vp_in (nI (5 * jx) + 3) L ∧ xs (nI (5 * jx) + 3).toNatClampNeg = a3) (hs4 : vp_in (nI (5 * jx) + 4) L ∧ xs (nI (5 * jx) + 4).toNatClampNeg = a4) {u : sS} {x pa sp ln rf sb m pn td ou : Nat} {th : Int32} {on : Int64} {Mw : zM} (hI : s_LX (z_G X) x pa sp ln rf sb m pn td ou u u th on Mw) (hok : s_ok jx u) (hj : jx < 64) {kq nq : Nat} (hkq : kq + 4000 ≤ 600128) (hnq : nq + 60000 ≤ 7301098) (kk : ∀ v th on Mz, s_LX (z_G X) x pa sp ln rf sb m pn td ou v v th on Mz → s_ok (jx + 1) v → z_W X Mz (kq + 4000) (nq + 60000) 27 [(4, .int (nI (5 * (jx + 1)))), (0, .ref b), (1, .ref x), (2, .ref m), (3, .ref ou)] []) : z_W X Mw kq nq 352 [(4, .int (nI (5 * jx))), (0, .ref b), (1, .ref x), (2, .ref m), (3, .ref ou)] [] := by
  refine z_aload_n C dL_law_352 rfl 2 rfl ?_
  refine z_aload_n C dL_law_353 rfl 1 rfl ?_
  refine z_iload C dL_law_354 0 rfl ?_
  refine z_iconst C (v := 1) dL_law_356 (by decide) ?_
  refine z_iadd C dL_law_357 ?_
  refine z_sld C hX hbl hbA hs1.1 hs1.2 dL_law_358 ?_
  refine z_aload_n C dL_law_359 rfl 1 rfl ?_
  refine z_iload C dL_law_360 0 rfl ?_
  refine z_iconst C (v := 2) dL_law_362 (by decide) ?_
  refine z_iadd C dL_law_363 ?_
  refine z_sld C hX hbl hbA hs2.1 hs2.2 dL_law_364 ?_
  refine z_aload_n C dL_law_365 rfl 4 rfl ?_
  refine z_callHi (rest := []) (k' := kq + 8) (n' := nq + 48) C (s_LX_P hI (fun hC9 hd9 ho9 => w_rest (z_l X) h_st hC9 hd9 ho9 hok a1 a2)) (ch_rest C ⟨Nat.le_of_ble_eq_true rfl, Nat.le_of_ble_eq_true rfl⟩) rfl rfl (Nat.le_of_ble_eq_true rfl) rfl rfl (by show _ ≤ 600128; omega) (by show _ ≤ 7301098; omega) dL_law_366 (fun xk M1 hq => ?_)
  obtain ⟨hk1, on1, hI1, ho1⟩ := hq
  refine z_istore (lv' := [(5, .int xk), (4, .int (nI (5 * jx))), (0, .ref b), (1, .ref x), (2, .ref m), (3, .ref ou)]) C dL_law_369 (by decide) rfl ?_
  refine z_aload_n C dL_law_371 rfl 4 rfl ?_
  refine z_aload_n C dL_law_372 rfl 2 rfl ?_
  refine z_iload C dL_law_373 1 rfl ?_
  refine z_iconst C (v := 1) dL_law_375 (by decide) ?_
  refine z_iadd C dL_law_376 ?_
  refine z_sld C hX hbl hbA hs1.1 hs1.2 dL_law_377 ?_
  refine z_aload_n C dL_law_378 rfl 2 rfl ?_
  refine z_iload C dL_law_379 1 rfl ?_
  refine z_iconst C (v := 2) dL_law_381 (by decide) ?_
  refine z_iadd C dL_law_382 ?_
  refine z_sld C hX hbl hbA hs2.1 hs2.2 dL_law_383 ?_
  obtain ⟨tp9, hm9⟩ := s_LX_m hI1
  refine z_callVi (rest := []) (k' := kq + 8 + 1) (n' := nq + 48 + 8) C (s_LX_R hI1 (fun hR9 => a_X5_rest (z_l X) hR9 hok (by omega) a1 a2)) (cs_L_159 C ⟨Nat.le_of_ble_eq_true rfl, Nat.le_of_ble_eq_true rfl⟩) hm9 rfl rfl rfl rfl (Nat.le_of_ble_eq_true rfl) rfl rfl (by show _ ≤ 600128; omega) (by show _ ≤ 7301098; omega) dL_law_384 (fun xr M2 hq => ?_)
  obtain ⟨hI2, hr2⟩ := hq
  refine z_istore (lv' := [(6, .int xr), (5, .int xk), (4, .int (nI (5 * jx))), (0, .ref b), (1, .ref x), (2, .ref m), (3, .ref ou)]) C dL_law_387 (by decide) rfl ?_
  refine z_goto C (tgt := 1757) dL_law_389 (by decide) ?_
  refine z_iinc (v := nI (5 * (jx + 1))) (lv' := [(4, .int (nI (5 * (jx + 1)))), (6, .int xr), (5, .int xk), (0, .ref b), (1, .ref x), (2, .ref m), (3, .ref ou)]) C dL_law_1757 2 rfl (j_inc5 jx) (by decide) rfl ?_
  refine z_goto C (tgt := 27) dL_law_1760 (by decide) ?_
  refine z_fewer [0, 3, 4, 5, 6] rfl ?_
  refine z_widen (k' := kq + 4000) (n' := nq + 60000) (by omega) (by omega) ?_
  exact kk _ _ _ _ hI2 (so_rest hok)
set_option maxRecDepth 20000 in
theorem lc_part {X : zX} (C : z_C X cL_law RL 7 room_1) (h_st : (z_l X).stackTraces = false) {b L : Nat} {xs : Nat → Int32} (hX : va_X b L xs (z_s X) (z_s X).heap) (hbl : b < (z_s X).heap.size) (hbA : ¬ z_F X b) {jx : Nat} {a1 a2 a3 a4 : Int32} (hs1 : vp_in (nI (5 * jx) + 1) L ∧ xs (nI (5 * jx) + 1).toNatClampNeg = a1) (hs2 : vp_in (nI (5 * jx) + 2) L ∧ xs (nI (5 * jx) + 2).toNatClampNeg = a2) (hs3 : vp_in (nI (5 * jx) + 3) L ∧ xs (nI (5 * jx) + 3).toNatClampNeg = a3) (hs4 : vp_in (nI (5 * jx) + 4) L ∧ xs (nI (5 * jx) + 4).toNatClampNeg = a4) {u : sS} {x pa sp ln rf sb m pn td ou : Nat} {th : Int32} {on : Int64} {Mw : zM} (hI : s_LX (z_G X) x pa sp ln rf sb m pn td ou u u th on Mw) (hok : s_ok jx u) (hj : jx < 64) {kq nq : Nat} (hkq : kq + 4000 ≤ 600128) (hnq : nq + 60000 ≤ 7301098) (kk : ∀ v th on Mz, s_LX (z_G X) x pa sp ln rf sb m pn td ou v v th on Mz → s_ok (jx + 1) v → z_W X Mz (kq + 4000) (nq + 60000) 27 [(4, .int (nI (5 * (jx + 1)))), (0, .ref b), (1, .ref x), (2, .ref m), (3, .ref ou)] []) : z_W X Mw kq nq 392 [(4, .int (nI (5 * jx))), (0, .ref b), (1, .ref x), (2, .ref m), (3, .ref ou)] [] := by
  refine z_aload_n C dL_law_392 rfl 2 rfl ?_
  refine z_aload_n C dL_law_393 rfl 1 rfl ?_
  refine z_iload C dL_law_394 0 rfl ?_
  refine z_iconst C (v := 1) dL_law_396 (by decide) ?_
  refine z_iadd C dL_law_397 ?_
  refine z_sld C hX hbl hbA hs1.1 hs1.2 dL_law_398 ?_
  refine z_aload_n C dL_law_399 rfl 1 rfl ?_
  refine z_iload C dL_law_400 0 rfl ?_
  refine z_iconst C (v := 2) dL_law_402 (by decide) ?_
  refine z_iadd C dL_law_403 ?_
  refine z_sld C hX hbl hbA hs2.1 hs2.2 dL_law_404 ?_
  refine z_aload_n C dL_law_405 rfl 1 rfl ?_
  refine z_iload C dL_law_406 0 rfl ?_
  refine z_iconst C (v := 3) dL_law_408 (by decide) ?_
  refine z_iadd C dL_law_409 ?_
  refine z_sld C hX hbl hbA hs3.1 hs3.2 dL_law_410 ?_
  refine z_aload_n C dL_law_411 rfl 1 rfl ?_
  refine z_iload C dL_law_412 0 rfl ?_
  refine z_iconst C (v := 4) dL_law_414 (by decide) ?_
  refine z_iadd C dL_law_415 ?_
  refine z_sld C hX hbl hbA hs4.1 hs4.2 dL_law_416 ?_
  refine z_aload_n C dL_law_417 rfl 4 rfl ?_
  refine z_callHi (rest := []) (k' := kq + 8) (n' := nq + 48) C (s_LX_P hI (fun hC9 hd9 ho9 => w_part (z_l X) h_st hC9 hd9 ho9 hok a1 a2 a3 a4)) (ch_part C ⟨Nat.le_of_ble_eq_true rfl, Nat.le_of_ble_eq_true rfl⟩) rfl rfl (Nat.le_of_ble_eq_true rfl) rfl rfl (by show _ ≤ 600128; omega) (by show _ ≤ 7301098; omega) dL_law_418 (fun xk M1 hq => ?_)
  obtain ⟨hk1, on1, hI1, ho1⟩ := hq
  refine z_istore (lv' := [(5, .int xk), (4, .int (nI (5 * jx))), (0, .ref b), (1, .ref x), (2, .ref m), (3, .ref ou)]) C dL_law_421 (by decide) rfl ?_
  refine z_aload_n C dL_law_423 rfl 4 rfl ?_
  refine z_aload_n C dL_law_424 rfl 2 rfl ?_
  refine z_iload C dL_law_425 1 rfl ?_
  refine z_iconst C (v := 1) dL_law_427 (by decide) ?_
  refine z_iadd C dL_law_428 ?_
  refine z_sld C hX hbl hbA hs1.1 hs1.2 dL_law_429 ?_
  refine z_aload_n C dL_law_430 rfl 2 rfl ?_
  refine z_iload C dL_law_431 1 rfl ?_
  refine z_iconst C (v := 2) dL_law_433 (by decide) ?_
  refine z_iadd C dL_law_434 ?_
  refine z_sld C hX hbl hbA hs2.1 hs2.2 dL_law_435 ?_
  refine z_aload_n C dL_law_436 rfl 2 rfl ?_
  refine z_iload C dL_law_437 1 rfl ?_
  refine z_iconst C (v := 3) dL_law_439 (by decide) ?_
  refine z_iadd C dL_law_440 ?_
  refine z_sld C hX hbl hbA hs3.1 hs3.2 dL_law_441 ?_
  refine z_aload_n C dL_law_442 rfl 2 rfl ?_
  refine z_iload C dL_law_443 1 rfl ?_
  refine z_iconst C (v := 4) dL_law_445 (by decide) ?_
  refine z_iadd C dL_law_446 ?_
  refine z_sld C hX hbl hbA hs4.1 hs4.2 dL_law_447 ?_
  obtain ⟨tp9, hm9⟩ := s_LX_m hI1
  refine z_callVi (rest := []) (k' := kq + 8 + 1) (n' := nq + 48 + 8) C (s_LX_R hI1 (fun hR9 => a_X5_part (z_l X) hR9 hok (by omega) a1 a2 a3 a4)) (cs_L_163 C ⟨Nat.le_of_ble_eq_true rfl, Nat.le_of_ble_eq_true rfl⟩) hm9 rfl rfl rfl rfl (Nat.le_of_ble_eq_true rfl) rfl rfl (by show _ ≤ 600128; omega) (by show _ ≤ 7301098; omega) dL_law_448 (fun xr M2 hq => ?_)
  obtain ⟨hI2, hr2⟩ := hq
  refine z_istore (lv' := [(6, .int xr), (5, .int xk), (4, .int (nI (5 * jx))), (0, .ref b), (1, .ref x), (2, .ref m), (3, .ref ou)]) C dL_law_451 (by decide) rfl ?_
  refine z_goto C (tgt := 1757) dL_law_453 (by decide) ?_
  refine z_iinc (v := nI (5 * (jx + 1))) (lv' := [(4, .int (nI (5 * (jx + 1)))), (6, .int xr), (5, .int xk), (0, .ref b), (1, .ref x), (2, .ref m), (3, .ref ou)]) C dL_law_1757 2 rfl (j_inc5 jx) (by decide) rfl ?_
  refine z_goto C (tgt := 27) dL_law_1760 (by decide) ?_
  refine z_fewer [0, 3, 4, 5, 6] rfl ?_
  refine z_widen (k' := kq + 4000) (n' := nq + 60000) (by omega) (by omega) ?_
  exact kk _ _ _ _ hI2 (so_part hok)
set_option maxRecDepth 20000 in
theorem lc_reader {X : zX} (C : z_C X cL_law RL 7 room_1) (h_st : (z_l X).stackTraces = false) {b L : Nat} {xs : Nat → Int32} (hX : va_X b L xs (z_s X) (z_s X).heap) (hbl : b < (z_s X).heap.size) (hbA : ¬ z_F X b) {jx : Nat} {a1 a2 a3 a4 : Int32} (hs1 : vp_in (nI (5 * jx) + 1) L ∧ xs (nI (5 * jx) + 1).toNatClampNeg = a1) (hs2 : vp_in (nI (5 * jx) + 2) L ∧ xs (nI (5 * jx) + 2).toNatClampNeg = a2) (hs3 : vp_in (nI (5 * jx) + 3) L ∧ xs (nI (5 * jx) + 3).toNatClampNeg = a3) (hs4 : vp_in (nI (5 * jx) + 4) L ∧ xs (nI (5 * jx) + 4).toNatClampNeg = a4) {u : sS} {x pa sp ln rf sb m pn td ou : Nat} {th : Int32} {on : Int64} {Mw : zM} (hI : s_LX (z_G X) x pa sp ln rf sb m pn td ou u u th on Mw) (hok : s_ok jx u) (hj : jx < 64) {kq nq : Nat} (hkq : kq + 4000 ≤ 600128) (hnq : nq + 60000 ≤ 7301098) (kk : ∀ v th on Mz, s_LX (z_G X) x pa sp ln rf sb m pn td ou v v th on Mz → s_ok (jx + 1) v → z_W X Mz (kq + 4000) (nq + 60000) 27 [(4, .int (nI (5 * (jx + 1)))), (0, .ref b), (1, .ref x), (2, .ref m), (3, .ref ou)] []) : z_W X Mw kq nq 456 [(4, .int (nI (5 * jx))), (0, .ref b), (1, .ref x), (2, .ref m), (3, .ref ou)] [] := by
  refine z_aload_n C dL_law_456 rfl 2 rfl ?_
  refine z_aload_n C dL_law_457 rfl 1 rfl ?_
  refine z_iload C dL_law_458 0 rfl ?_
  refine z_iconst C (v := 1) dL_law_460 (by decide) ?_
  refine z_iadd C dL_law_461 ?_
  refine z_sld C hX hbl hbA hs1.1 hs1.2 dL_law_462 ?_
  refine z_aload_n C dL_law_463 rfl 1 rfl ?_
  refine z_iload C dL_law_464 0 rfl ?_
  refine z_iconst C (v := 2) dL_law_466 (by decide) ?_
  refine z_iadd C dL_law_467 ?_
  refine z_sld C hX hbl hbA hs2.1 hs2.2 dL_law_468 ?_
  refine z_aload_n C dL_law_469 rfl 4 rfl ?_
  refine z_callHi (rest := []) (k' := kq + 8) (n' := nq + 48) C (s_LX_P hI (fun hC9 hd9 ho9 => w_reader (z_l X) h_st hC9 hd9 ho9 hok a1 a2)) (ch_reader C ⟨Nat.le_of_ble_eq_true rfl, Nat.le_of_ble_eq_true rfl⟩) rfl rfl (Nat.le_of_ble_eq_true rfl) rfl rfl (by show _ ≤ 600128; omega) (by show _ ≤ 7301098; omega) dL_law_470 (fun xk M1 hq => ?_)
  obtain ⟨hk1, on1, hI1, ho1⟩ := hq
  refine z_istore (lv' := [(5, .int xk), (4, .int (nI (5 * jx))), (0, .ref b), (1, .ref x), (2, .ref m), (3, .ref ou)]) C dL_law_473 (by decide) rfl ?_
  refine z_aload_n C dL_law_475 rfl 4 rfl ?_
  refine z_aload_n C dL_law_476 rfl 2 rfl ?_
  refine z_iload C dL_law_477 1 rfl ?_
  refine z_iconst C (v := 1) dL_law_479 (by decide) ?_
  refine z_iadd C dL_law_480 ?_
  refine z_sld C hX hbl hbA hs1.1 hs1.2 dL_law_481 ?_
  refine z_aload_n C dL_law_482 rfl 2 rfl ?_
  refine z_iload C dL_law_483 1 rfl ?_
  refine z_iconst C (v := 2) dL_law_485 (by decide) ?_
  refine z_iadd C dL_law_486 ?_
  refine z_sld C hX hbl hbA hs2.1 hs2.2 dL_law_487 ?_
  obtain ⟨tp9, hm9⟩ := s_LX_m hI1
  refine z_callVi (rest := []) (k' := kq + 8 + 1) (n' := nq + 48 + 8) C (s_LX_R hI1 (fun hR9 => a_X5_reader (z_l X) hR9 hok (by omega) a1 a2)) (cs_L_166 C ⟨Nat.le_of_ble_eq_true rfl, Nat.le_of_ble_eq_true rfl⟩) hm9 rfl rfl rfl rfl (Nat.le_of_ble_eq_true rfl) rfl rfl (by show _ ≤ 600128; omega) (by show _ ≤ 7301098; omega) dL_law_488 (fun xr M2 hq => ?_)
  obtain ⟨hI2, hr2⟩ := hq
  refine z_istore (lv' := [(6, .int xr), (5, .int xk), (4, .int (nI (5 * jx))), (0, .ref b), (1, .ref x), (2, .ref m), (3, .ref ou)]) C dL_law_491 (by decide) rfl ?_
  refine z_goto C (tgt := 1757) dL_law_493 (by decide) ?_
  refine z_iinc (v := nI (5 * (jx + 1))) (lv' := [(4, .int (nI (5 * (jx + 1)))), (6, .int xr), (5, .int xk), (0, .ref b), (1, .ref x), (2, .ref m), (3, .ref ou)]) C dL_law_1757 2 rfl (j_inc5 jx) (by decide) rfl ?_
  refine z_goto C (tgt := 27) dL_law_1760 (by decide) ?_
  refine z_fewer [0, 3, 4, 5, 6] rfl ?_
  refine z_widen (k' := kq + 4000) (n' := nq + 60000) (by omega) (by omega) ?_
  exact kk _ _ _ _ hI2 (so_reader hok)
set_option maxRecDepth 20000 in
theorem lc_exchange {X : zX} (C : z_C X cL_law RL 7 room_1) (h_st : (z_l X).stackTraces = false) {b L : Nat} {xs : Nat → Int32} (hX : va_X b L xs (z_s X) (z_s X).heap) (hbl : b < (z_s X).heap.size) (hbA : ¬ z_F X b) {jx : Nat} {a1 a2 a3 a4 : Int32} (hs1 : vp_in (nI (5 * jx) + 1) L ∧ xs (nI (5 * jx) + 1).toNatClampNeg = a1) (hs2 : vp_in (nI (5 * jx) + 2) L ∧ xs (nI (5 * jx) + 2).toNatClampNeg = a2) (hs3 : vp_in (nI (5 * jx) + 3) L ∧ xs (nI (5 * jx) + 3).toNatClampNeg = a3) (hs4 : vp_in (nI (5 * jx) + 4) L ∧ xs (nI (5 * jx) + 4).toNatClampNeg = a4) {u : sS} {x pa sp ln rf sb m pn td ou : Nat} {th : Int32} {on : Int64} {Mw : zM} (hI : s_LX (z_G X) x pa sp ln rf sb m pn td ou u u th on Mw) (hok : s_ok jx u) (hj : jx < 64) {kq nq : Nat} (hkq : kq + 4000 ≤ 600128) (hnq : nq + 60000 ≤ 7301098) (kk : ∀ v th on Mz, s_LX (z_G X) x pa sp ln rf sb m pn td ou v v th on Mz → s_ok (jx + 1) v → z_W X Mz (kq + 4000) (nq + 60000) 27 [(4, .int (nI (5 * (jx + 1)))), (0, .ref b), (1, .ref x), (2, .ref m), (3, .ref ou)] []) : z_W X Mw kq nq 496 [(4, .int (nI (5 * jx))), (0, .ref b), (1, .ref x), (2, .ref m), (3, .ref ou)] [] := by
  refine z_aload_n C dL_law_496 rfl 2 rfl ?_
  refine z_aload_n C dL_law_497 rfl 1 rfl ?_
  refine z_iload C dL_law_498 0 rfl ?_
  refine z_iconst C (v := 1) dL_law_500 (by decide) ?_
  refine z_iadd C dL_law_501 ?_
  refine z_sld C hX hbl hbA hs1.1 hs1.2 dL_law_502 ?_
  refine z_aload_n C dL_law_503 rfl 1 rfl ?_
  refine z_iload C dL_law_504 0 rfl ?_
  refine z_iconst C (v := 2) dL_law_506 (by decide) ?_
  refine z_iadd C dL_law_507 ?_
  refine z_sld C hX hbl hbA hs2.1 hs2.2 dL_law_508 ?_
  refine z_aload_n C dL_law_509 rfl 4 rfl ?_
  refine z_callHi (rest := []) (k' := kq + 8) (n' := nq + 48) C (s_LX_P hI (fun hC9 hd9 ho9 => w_exchange (z_l X) h_st hC9 hd9 ho9 hok a1 a2)) (ch_exchange C ⟨Nat.le_of_ble_eq_true rfl, Nat.le_of_ble_eq_true rfl⟩) rfl rfl (Nat.le_of_ble_eq_true rfl) rfl rfl (by show _ ≤ 600128; omega) (by show _ ≤ 7301098; omega) dL_law_510 (fun xk M1 hq => ?_)
  obtain ⟨hk1, on1, hI1, ho1⟩ := hq
  refine z_istore (lv' := [(5, .int xk), (4, .int (nI (5 * jx))), (0, .ref b), (1, .ref x), (2, .ref m), (3, .ref ou)]) C dL_law_513 (by decide) rfl ?_
  refine z_aload_n C dL_law_515 rfl 4 rfl ?_
  refine z_aload_n C dL_law_516 rfl 2 rfl ?_
  refine z_iload C dL_law_517 1 rfl ?_
  refine z_iconst C (v := 1) dL_law_519 (by decide) ?_
  refine z_iadd C dL_law_520 ?_
  refine z_sld C hX hbl hbA hs1.1 hs1.2 dL_law_521 ?_
  refine z_aload_n C dL_law_522 rfl 2 rfl ?_
  refine z_iload C dL_law_523 1 rfl ?_
  refine z_iconst C (v := 2) dL_law_525 (by decide) ?_
  refine z_iadd C dL_law_526 ?_
  refine z_sld C hX hbl hbA hs2.1 hs2.2 dL_law_527 ?_
  obtain ⟨tp9, hm9⟩ := s_LX_m hI1
  refine z_callVi (rest := []) (k' := kq + 8) (n' := nq + 48) C (s_LX_R hI1 (fun hR9 => a_X5_exchange (z_l X) hR9 hok (by omega) a1 a2)) (cs_L_169 C ⟨Nat.le_of_ble_eq_true rfl, Nat.le_of_ble_eq_true rfl⟩) hm9 rfl rfl rfl rfl (Nat.le_of_ble_eq_true rfl) rfl rfl (by show _ ≤ 600128; omega) (by show _ ≤ 7301098; omega) dL_law_528 (fun xr M2 hq => ?_)
  obtain ⟨hI2, hr2⟩ := hq
  refine z_istore (lv' := [(6, .int xr), (5, .int xk), (4, .int (nI (5 * jx))), (0, .ref b), (1, .ref x), (2, .ref m), (3, .ref ou)]) C dL_law_531 (by decide) rfl ?_
  refine z_goto C (tgt := 1757) dL_law_533 (by decide) ?_
  refine z_iinc (v := nI (5 * (jx + 1))) (lv' := [(4, .int (nI (5 * (jx + 1)))), (6, .int xr), (5, .int xk), (0, .ref b), (1, .ref x), (2, .ref m), (3, .ref ou)]) C dL_law_1757 2 rfl (j_inc5 jx) (by decide) rfl ?_
  refine z_goto C (tgt := 27) dL_law_1760 (by decide) ?_
  refine z_fewer [0, 3, 4, 5, 6] rfl ?_
  refine z_widen (k' := kq + 4000) (n' := nq + 60000) (by omega) (by omega) ?_
  exact kk _ _ _ _ hI2 (so_exchange hok)
set_option maxRecDepth 20000 in
theorem lc_go {X : zX} (C : z_C X cL_law RL 7 room_1) (h_st : (z_l X).stackTraces = false) {b L : Nat} {xs : Nat → Int32} (hX : va_X b L xs (z_s X) (z_s X).heap) (hbl : b < (z_s X).heap.size) (hbA : ¬ z_F X b) {jx : Nat} {a1 a2 a3 a4 : Int32} (hs1 : vp_in (nI (5 * jx) + 1) L ∧ xs (nI (5 * jx) + 1).toNatClampNeg = a1) (hs2 : vp_in (nI (5 * jx) + 2) L ∧ xs (nI (5 * jx) + 2).toNatClampNeg = a2) (hs3 : vp_in (nI (5 * jx) + 3) L ∧ xs (nI (5 * jx) + 3).toNatClampNeg = a3) (hs4 : vp_in (nI (5 * jx) + 4) L ∧ xs (nI (5 * jx) + 4).toNatClampNeg = a4) {u : sS} {x pa sp ln rf sb m pn td ou : Nat} {th : Int32} {on : Int64} {Mw : zM} (hI : s_LX (z_G X) x pa sp ln rf sb m pn td ou u u th on Mw) (hok : s_ok jx u) (hj : jx < 64) {kq nq : Nat} (hkq : kq + 4000 ≤ 600128) (hnq : nq + 60000 ≤ 7301098) (kk : ∀ v th on Mz, s_LX (z_G X) x pa sp ln rf sb m pn td ou v v th on Mz → s_ok (jx + 1) v → z_W X Mz (kq + 4000) (nq + 60000) 27 [(4, .int (nI (5 * (jx + 1)))), (0, .ref b), (1, .ref x), (2, .ref m), (3, .ref ou)] []) : z_W X Mw kq nq 536 [(4, .int (nI (5 * jx))), (0, .ref b), (1, .ref x), (2, .ref m), (3, .ref ou)] [] := by
  refine z_aload_n C dL_law_536 rfl 2 rfl ?_
  refine z_aload_n C dL_law_537 rfl 1 rfl ?_
  refine z_iload C dL_law_538 0 rfl ?_
  refine z_iconst C (v := 1) dL_law_540 (by decide) ?_
  refine z_iadd C dL_law_541 ?_
  refine z_sld C hX hbl hbA hs1.1 hs1.2 dL_law_542 ?_
  refine z_aload_n C dL_law_543 rfl 1 rfl ?_
  refine z_iload C dL_law_544 0 rfl ?_
  refine z_iconst C (v := 2) dL_law_546 (by decide) ?_
  refine z_iadd C dL_law_547 ?_
  refine z_sld C hX hbl hbA hs2.1 hs2.2 dL_law_548 ?_
  refine z_aload_n C dL_law_549 rfl 4 rfl ?_
  refine z_callHi (rest := []) (k' := kq + 8) (n' := nq + 48) C (s_LX_P hI (fun hC9 hd9 ho9 => w_go (z_l X) h_st hC9 hd9 ho9 hok a1 a2)) (ch_go C ⟨Nat.le_of_ble_eq_true rfl, Nat.le_of_ble_eq_true rfl⟩) rfl rfl (Nat.le_of_ble_eq_true rfl) rfl rfl (by show _ ≤ 600128; omega) (by show _ ≤ 7301098; omega) dL_law_550 (fun xk M1 hq => ?_)
  obtain ⟨hk1, on1, hI1, ho1⟩ := hq
  refine z_istore (lv' := [(5, .int xk), (4, .int (nI (5 * jx))), (0, .ref b), (1, .ref x), (2, .ref m), (3, .ref ou)]) C dL_law_553 (by decide) rfl ?_
  refine z_aload_n C dL_law_555 rfl 4 rfl ?_
  refine z_aload_n C dL_law_556 rfl 2 rfl ?_
  refine z_iload C dL_law_557 1 rfl ?_
  refine z_iconst C (v := 1) dL_law_559 (by decide) ?_
  refine z_iadd C dL_law_560 ?_
  refine z_sld C hX hbl hbA hs1.1 hs1.2 dL_law_561 ?_
  refine z_aload_n C dL_law_562 rfl 2 rfl ?_
  refine z_iload C dL_law_563 1 rfl ?_
  refine z_iconst C (v := 2) dL_law_565 (by decide) ?_
  refine z_iadd C dL_law_566 ?_
  refine z_sld C hX hbl hbA hs2.1 hs2.2 dL_law_567 ?_
  obtain ⟨tp9, hm9⟩ := s_LX_m hI1
  refine z_callVi (rest := []) (k' := kq + 8) (n' := nq + 48) C (s_LX_R hI1 (fun hR9 => a_X5_go (z_l X) hR9 hok (by omega) a1 a2)) (cs_L_172 C ⟨Nat.le_of_ble_eq_true rfl, Nat.le_of_ble_eq_true rfl⟩) hm9 rfl rfl rfl rfl (Nat.le_of_ble_eq_true rfl) rfl rfl (by show _ ≤ 600128; omega) (by show _ ≤ 7301098; omega) dL_law_568 (fun xr M2 hq => ?_)
  obtain ⟨hI2, hr2⟩ := hq
  refine z_istore (lv' := [(6, .int xr), (5, .int xk), (4, .int (nI (5 * jx))), (0, .ref b), (1, .ref x), (2, .ref m), (3, .ref ou)]) C dL_law_571 (by decide) rfl ?_
  refine z_goto C (tgt := 1757) dL_law_573 (by decide) ?_
  refine z_iinc (v := nI (5 * (jx + 1))) (lv' := [(4, .int (nI (5 * (jx + 1)))), (6, .int xr), (5, .int xk), (0, .ref b), (1, .ref x), (2, .ref m), (3, .ref ou)]) C dL_law_1757 2 rfl (j_inc5 jx) (by decide) rfl ?_
  refine z_goto C (tgt := 27) dL_law_1760 (by decide) ?_
  refine z_fewer [0, 3, 4, 5, 6] rfl ?_
  refine z_widen (k' := kq + 4000) (n' := nq + 60000) (by omega) (by omega) ?_
  exact kk _ _ _ _ hI2 (so_go hok)
set_option maxRecDepth 20000 in
theorem lc_move {X : zX} (C : z_C X cL_law RL 7 room_1) (h_st : (z_l X).stackTraces = false) {b L : Nat} {xs : Nat → Int32} (hX : va_X b L xs (z_s X) (z_s X).heap) (hbl : b < (z_s X).heap.size) (hbA : ¬ z_F X b) {jx : Nat} {a1 a2 a3 a4 : Int32} (hs1 : vp_in (nI (5 * jx) + 1) L ∧ xs (nI (5 * jx) + 1).toNatClampNeg = a1) (hs2 : vp_in (nI (5 * jx) + 2) L ∧ xs (nI (5 * jx) + 2).toNatClampNeg = a2) (hs3 : vp_in (nI (5 * jx) + 3) L ∧ xs (nI (5 * jx) + 3).toNatClampNeg = a3) (hs4 : vp_in (nI (5 * jx) + 4) L ∧ xs (nI (5 * jx) + 4).toNatClampNeg = a4) {u : sS} {x pa sp ln rf sb m pn td ou : Nat} {th : Int32} {on : Int64} {Mw : zM} (hI : s_LX (z_G X) x pa sp ln rf sb m pn td ou u u th on Mw) (hok : s_ok jx u) (hj : jx < 64) {kq nq : Nat} (hkq : kq + 4000 ≤ 600128) (hnq : nq + 60000 ≤ 7301098) (kk : ∀ v th on Mz, s_LX (z_G X) x pa sp ln rf sb m pn td ou v v th on Mz → s_ok (jx + 1) v → z_W X Mz (kq + 4000) (nq + 60000) 27 [(4, .int (nI (5 * (jx + 1)))), (0, .ref b), (1, .ref x), (2, .ref m), (3, .ref ou)] []) : z_W X Mw kq nq 576 [(4, .int (nI (5 * jx))), (0, .ref b), (1, .ref x), (2, .ref m), (3, .ref ou)] [] := by
  refine z_aload_n C dL_law_576 rfl 2 rfl ?_
  refine z_aload_n C dL_law_577 rfl 1 rfl ?_
  refine z_iload C dL_law_578 0 rfl ?_
  refine z_iconst C (v := 1) dL_law_580 (by decide) ?_
  refine z_iadd C dL_law_581 ?_
  refine z_sld C hX hbl hbA hs1.1 hs1.2 dL_law_582 ?_
  refine z_aload_n C dL_law_583 rfl 1 rfl ?_
  refine z_iload C dL_law_584 0 rfl ?_
  refine z_iconst C (v := 2) dL_law_586 (by decide) ?_
  refine z_iadd C dL_law_587 ?_
  refine z_sld C hX hbl hbA hs2.1 hs2.2 dL_law_588 ?_
  refine z_aload_n C dL_law_589 rfl 4 rfl ?_
  refine z_callHi (rest := []) (k' := kq + 8) (n' := nq + 48) C (s_LX_P hI (fun hC9 hd9 ho9 => w_move (z_l X) h_st hC9 hd9 ho9 hok a1 a2)) (ch_move C ⟨Nat.le_of_ble_eq_true rfl, Nat.le_of_ble_eq_true rfl⟩) rfl rfl (Nat.le_of_ble_eq_true rfl) rfl rfl (by show _ ≤ 600128; omega) (by show _ ≤ 7301098; omega) dL_law_590 (fun xk M1 hq => ?_)
  obtain ⟨hk1, on1, hI1, ho1⟩ := hq
  refine z_istore (lv' := [(5, .int xk), (4, .int (nI (5 * jx))), (0, .ref b), (1, .ref x), (2, .ref m), (3, .ref ou)]) C dL_law_593 (by decide) rfl ?_
  refine z_aload_n C dL_law_595 rfl 4 rfl ?_
  refine z_aload_n C dL_law_596 rfl 2 rfl ?_
  refine z_iload C dL_law_597 1 rfl ?_
  refine z_iconst C (v := 1) dL_law_599 (by decide) ?_
  refine z_iadd C dL_law_600 ?_
  refine z_sld C hX hbl hbA hs1.1 hs1.2 dL_law_601 ?_
  refine z_aload_n C dL_law_602 rfl 2 rfl ?_
  refine z_iload C dL_law_603 1 rfl ?_
  refine z_iconst C (v := 2) dL_law_605 (by decide) ?_
  refine z_iadd C dL_law_606 ?_
  refine z_sld C hX hbl hbA hs2.1 hs2.2 dL_law_607 ?_
  obtain ⟨tp9, hm9⟩ := s_LX_m hI1
  refine z_callVi (rest := []) (k' := kq + 8) (n' := nq + 48) C (s_LX_R hI1 (fun hR9 => a_X5_move (z_l X) hR9 hok (by omega) a1 a2)) (cs_L_175 C ⟨Nat.le_of_ble_eq_true rfl, Nat.le_of_ble_eq_true rfl⟩) hm9 rfl rfl rfl rfl (Nat.le_of_ble_eq_true rfl) rfl rfl (by show _ ≤ 600128; omega) (by show _ ≤ 7301098; omega) dL_law_608 (fun xr M2 hq => ?_)
  obtain ⟨hI2, hr2⟩ := hq
  refine z_istore (lv' := [(6, .int xr), (5, .int xk), (4, .int (nI (5 * jx))), (0, .ref b), (1, .ref x), (2, .ref m), (3, .ref ou)]) C dL_law_611 (by decide) rfl ?_
  refine z_goto C (tgt := 1757) dL_law_613 (by decide) ?_
  refine z_iinc (v := nI (5 * (jx + 1))) (lv' := [(4, .int (nI (5 * (jx + 1)))), (6, .int xr), (5, .int xk), (0, .ref b), (1, .ref x), (2, .ref m), (3, .ref ou)]) C dL_law_1757 2 rfl (j_inc5 jx) (by decide) rfl ?_
  refine z_goto C (tgt := 27) dL_law_1760 (by decide) ?_
  refine z_fewer [0, 3, 4, 5, 6] rfl ?_
  refine z_widen (k' := kq + 4000) (n' := nq + 60000) (by omega) (by omega) ?_
  exact kk _ _ _ _ hI2 (so_move hok)
set_option maxRecDepth 20000 in
theorem lc_end {X : zX} (C : z_C X cL_law RL 7 room_1) (h_st : (z_l X).stackTraces = false) {b L : Nat} {xs : Nat → Int32} (hX : va_X b L xs (z_s X) (z_s X).heap) (hbl : b < (z_s X).heap.size) (hbA : ¬ z_F X b) {jx : Nat} {a1 a2 a3 a4 : Int32} (hs1 : vp_in (nI (5 * jx) + 1) L ∧ xs (nI (5 * jx) + 1).toNatClampNeg = a1) (hs2 : vp_in (nI (5 * jx) + 2) L ∧ xs (nI (5 * jx) + 2).toNatClampNeg = a2) (hs3 : vp_in (nI (5 * jx) + 3) L ∧ xs (nI (5 * jx) + 3).toNatClampNeg = a3) (hs4 : vp_in (nI (5 * jx) + 4) L ∧ xs (nI (5 * jx) + 4).toNatClampNeg = a4) {u : sS} {x pa sp ln rf sb m pn td ou : Nat} {th : Int32} {on : Int64} {Mw : zM} (hI : s_LX (z_G X) x pa sp ln rf sb m pn td ou u u th on Mw) (hok : s_ok jx u) (hj : jx < 64) {kq nq : Nat} (hkq : kq + 4000 ≤ 600128) (hnq : nq + 60000 ≤ 7301098) (kk : ∀ v th on Mz, s_LX (z_G X) x pa sp ln rf sb m pn td ou v v th on Mz → s_ok (jx + 1) v → z_W X Mz (kq + 4000) (nq + 60000) 27 [(4, .int (nI (5 * (jx + 1)))), (0, .ref b), (1, .ref x), (2, .ref m), (3, .ref ou)] []) : z_W X Mw kq nq 616 [(4, .int (nI (5 * jx))), (0, .ref b), (1, .ref x), (2, .ref m), (3, .ref ou)] [] := by
  refine z_aload_n C dL_law_616 rfl 2 rfl ?_
  refine z_aload_n C dL_law_617 rfl 1 rfl ?_
  refine z_iload C dL_law_618 0 rfl ?_
  refine z_iconst C (v := 1) dL_law_620 (by decide) ?_
  refine z_iadd C dL_law_621 ?_
  refine z_sld C hX hbl hbA hs1.1 hs1.2 dL_law_622 ?_
  refine z_aload_n C dL_law_623 rfl 1 rfl ?_
  refine z_iload C dL_law_624 0 rfl ?_
  refine z_iconst C (v := 2) dL_law_626 (by decide) ?_
  refine z_iadd C dL_law_627 ?_
  refine z_sld C hX hbl hbA hs2.1 hs2.2 dL_law_628 ?_
  refine z_aload_n C dL_law_629 rfl 4 rfl ?_
  refine z_callHi (rest := []) (k' := kq + 8) (n' := nq + 48) C (s_LX_P hI (fun hC9 hd9 ho9 => w_end (z_l X) h_st hC9 hd9 ho9 hok a1 a2)) (ch_end C ⟨Nat.le_of_ble_eq_true rfl, Nat.le_of_ble_eq_true rfl⟩) rfl rfl (Nat.le_of_ble_eq_true rfl) rfl rfl (by show _ ≤ 600128; omega) (by show _ ≤ 7301098; omega) dL_law_630 (fun xk M1 hq => ?_)
  obtain ⟨hk1, on1, hI1, ho1⟩ := hq
  refine z_istore (lv' := [(5, .int xk), (4, .int (nI (5 * jx))), (0, .ref b), (1, .ref x), (2, .ref m), (3, .ref ou)]) C dL_law_633 (by decide) rfl ?_
  refine z_aload_n C dL_law_635 rfl 4 rfl ?_
  refine z_aload_n C dL_law_636 rfl 2 rfl ?_
  refine z_iload C dL_law_637 1 rfl ?_
  refine z_iconst C (v := 1) dL_law_639 (by decide) ?_
  refine z_iadd C dL_law_640 ?_
  refine z_sld C hX hbl hbA hs1.1 hs1.2 dL_law_641 ?_
  refine z_aload_n C dL_law_642 rfl 2 rfl ?_
  refine z_iload C dL_law_643 1 rfl ?_
  refine z_iconst C (v := 2) dL_law_645 (by decide) ?_
  refine z_iadd C dL_law_646 ?_
  refine z_sld C hX hbl hbA hs2.1 hs2.2 dL_law_647 ?_
  obtain ⟨tp9, hm9⟩ := s_LX_m hI1
  refine z_callVi (rest := []) (k' := kq + 8) (n' := nq + 48) C (s_LX_R hI1 (fun hR9 => a_X5_end (z_l X) hR9 hok (by omega) a1 a2)) (cs_L_178 C ⟨Nat.le_of_ble_eq_true rfl, Nat.le_of_ble_eq_true rfl⟩) hm9 rfl rfl rfl rfl (Nat.le_of_ble_eq_true rfl) rfl rfl (by show _ ≤ 600128; omega) (by show _ ≤ 7301098; omega) dL_law_648 (fun xr M2 hq => ?_)
  obtain ⟨hI2, hr2⟩ := hq
  refine z_istore (lv' := [(6, .int xr), (5, .int xk), (4, .int (nI (5 * jx))), (0, .ref b), (1, .ref x), (2, .ref m), (3, .ref ou)]) C dL_law_651 (by decide) rfl ?_
  refine z_goto C (tgt := 1757) dL_law_653 (by decide) ?_
  refine z_iinc (v := nI (5 * (jx + 1))) (lv' := [(4, .int (nI (5 * (jx + 1)))), (6, .int xr), (5, .int xk), (0, .ref b), (1, .ref x), (2, .ref m), (3, .ref ou)]) C dL_law_1757 2 rfl (j_inc5 jx) (by decide) rfl ?_
  refine z_goto C (tgt := 27) dL_law_1760 (by decide) ?_
  refine z_fewer [0, 3, 4, 5, 6] rfl ?_
  refine z_widen (k' := kq + 4000) (n' := nq + 60000) (by omega) (by omega) ?_
  exact kk _ _ _ _ hI2 (so_end hok)
set_option maxRecDepth 20000 in
theorem lc_stretch {X : zX} (C : z_C X cL_law RL 7 room_1) (h_st : (z_l X).stackTraces = false) {b L : Nat} {xs : Nat → Int32} (hX : va_X b L xs (z_s X) (z_s X).heap) (hbl : b < (z_s X).heap.size) (hbA : ¬ z_F X b) {jx : Nat} {a1 a2 a3 a4 : Int32} (hs1 : vp_in (nI (5 * jx) + 1) L ∧ xs (nI (5 * jx) + 1).toNatClampNeg = a1) (hs2 : vp_in (nI (5 * jx) + 2) L ∧ xs (nI (5 * jx) + 2).toNatClampNeg = a2) (hs3 : vp_in (nI (5 * jx) + 3) L ∧ xs (nI (5 * jx) + 3).toNatClampNeg = a3) (hs4 : vp_in (nI (5 * jx) + 4) L ∧ xs (nI (5 * jx) + 4).toNatClampNeg = a4) {u : sS} {x pa sp ln rf sb m pn td ou : Nat} {th : Int32} {on : Int64} {Mw : zM} (hI : s_LX (z_G X) x pa sp ln rf sb m pn td ou u u th on Mw) (hok : s_ok jx u) (hj : jx < 64) {kq nq : Nat} (hkq : kq + 4000 ≤ 600128) (hnq : nq + 60000 ≤ 7301098) (kk : ∀ v th on Mz, s_LX (z_G X) x pa sp ln rf sb m pn td ou v v th on Mz → s_ok (jx + 1) v → z_W X Mz (kq + 4000) (nq + 60000) 27 [(4, .int (nI (5 * (jx + 1)))), (0, .ref b), (1, .ref x), (2, .ref m), (3, .ref ou)] []) : z_W X Mw kq nq 656 [(4, .int (nI (5 * jx))), (0, .ref b), (1, .ref x), (2, .ref m), (3, .ref ou)] [] := by
  refine z_aload_n C dL_law_656 rfl 2 rfl ?_
  refine z_aload_n C dL_law_657 rfl 1 rfl ?_
  refine z_iload C dL_law_658 0 rfl ?_
  refine z_iconst C (v := 1) dL_law_660 (by decide) ?_
  refine z_iadd C dL_law_661 ?_
  refine z_sld C hX hbl hbA hs1.1 hs1.2 dL_law_662 ?_
  refine z_aload_n C dL_law_663 rfl 1 rfl ?_
  refine z_iload C dL_law_664 0 rfl ?_
  refine z_iconst C (v := 2) dL_law_666 (by decide) ?_
  refine z_iadd C dL_law_667 ?_
  refine z_sld C hX hbl hbA hs2.1 hs2.2 dL_law_668 ?_
  refine z_aload_n C dL_law_669 rfl 4 rfl ?_
  refine z_callHi (rest := []) (k' := kq + 8) (n' := nq + 48) C (s_LX_P hI (fun hC9 hd9 ho9 => w_stretch (z_l X) h_st hC9 hd9 ho9 hok a1 a2)) (ch_stretch C ⟨Nat.le_of_ble_eq_true rfl, Nat.le_of_ble_eq_true rfl⟩) rfl rfl (Nat.le_of_ble_eq_true rfl) rfl rfl (by show _ ≤ 600128; omega) (by show _ ≤ 7301098; omega) dL_law_670 (fun xk M1 hq => ?_)
  obtain ⟨hk1, on1, hI1, ho1⟩ := hq
  refine z_istore (lv' := [(5, .int xk), (4, .int (nI (5 * jx))), (0, .ref b), (1, .ref x), (2, .ref m), (3, .ref ou)]) C dL_law_673 (by decide) rfl ?_
  refine z_aload_n C dL_law_675 rfl 4 rfl ?_
  refine z_aload_n C dL_law_676 rfl 2 rfl ?_
  refine z_iload C dL_law_677 1 rfl ?_
  refine z_iconst C (v := 1) dL_law_679 (by decide) ?_
  refine z_iadd C dL_law_680 ?_
  refine z_sld C hX hbl hbA hs1.1 hs1.2 dL_law_681 ?_
  refine z_aload_n C dL_law_682 rfl 2 rfl ?_
  refine z_iload C dL_law_683 1 rfl ?_
  refine z_iconst C (v := 2) dL_law_685 (by decide) ?_
  refine z_iadd C dL_law_686 ?_
  refine z_sld C hX hbl hbA hs2.1 hs2.2 dL_law_687 ?_
  obtain ⟨tp9, hm9⟩ := s_LX_m hI1
  refine z_callVi (rest := []) (k' := kq + 8) (n' := nq + 48) C (s_LX_R hI1 (fun hR9 => a_X5_stretch (z_l X) hR9 hok (by omega) a1 a2)) (cs_L_181 C ⟨Nat.le_of_ble_eq_true rfl, Nat.le_of_ble_eq_true rfl⟩) hm9 rfl rfl rfl rfl (Nat.le_of_ble_eq_true rfl) rfl rfl (by show _ ≤ 600128; omega) (by show _ ≤ 7301098; omega) dL_law_688 (fun xr M2 hq => ?_)
  obtain ⟨hI2, hr2⟩ := hq
  refine z_istore (lv' := [(6, .int xr), (5, .int xk), (4, .int (nI (5 * jx))), (0, .ref b), (1, .ref x), (2, .ref m), (3, .ref ou)]) C dL_law_691 (by decide) rfl ?_
  refine z_goto C (tgt := 1757) dL_law_693 (by decide) ?_
  refine z_iinc (v := nI (5 * (jx + 1))) (lv' := [(4, .int (nI (5 * (jx + 1)))), (6, .int xr), (5, .int xk), (0, .ref b), (1, .ref x), (2, .ref m), (3, .ref ou)]) C dL_law_1757 2 rfl (j_inc5 jx) (by decide) rfl ?_
  refine z_goto C (tgt := 27) dL_law_1760 (by decide) ?_
  refine z_fewer [0, 3, 4, 5, 6] rfl ?_
  refine z_widen (k' := kq + 4000) (n' := nq + 60000) (by omega) (by omega) ?_
  exact kk _ _ _ _ hI2 (so_stretch hok)
end
