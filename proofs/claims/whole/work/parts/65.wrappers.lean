/-! PART 65: the law's own calls of the class: what they answer, what they catch -/
abbrev qL_wrap : zY := (yL_wrap, cL_wrap, 6, some .int)
theorem kh_wrap : Cond.codeWith (qL_wrap).1 (qL_wrap).2.1 (qL_wrap).2.2.1 (qL_wrap).2.2.2 [(0, 13, 16, 19), (0, 13, 20, 21)] ∈ gw := gw_3 (i := 212) rfl rfl
theorem ch_wrap {X : zX} {cc : ByteArray} {n9 : Nat} {rm rmc : Room} (C : z_C X cc RL n9 rm) (hR : rmc.frames + 1 ≤ rm.frames ∧ 8 + (6 + 11) + rmc.locals ≤ rm.locals) : vx_CSW (z_R X) (z_s X) (z_a X) RL 144 (qL_wrap).1 (qL_wrap).2.1 (qL_wrap).2.2.1 (qL_wrap).2.2.2 [(0, 13, 16, 19), (0, 13, 20, 21)] (z_hs qL_wrap [(0, 13, 16, 19), (0, 13, 20, 21)]) rmc rmc.cells rmc.slots 5 := z_cwH (q := qL_wrap) C kh_wrap kw690 kw691 kw0 (by decide +kernel) hR
abbrev qL_fresh : zY := (yL_fresh, cL_fresh, 5, some .int)
theorem kh_fresh : Cond.codeWith (qL_fresh).1 (qL_fresh).2.1 (qL_fresh).2.2.1 (qL_fresh).2.2.2 [(0, 11, 14, 19), (0, 11, 18, 21)] ∈ gw := gw_4 (i := 11) rfl rfl
theorem ch_fresh {X : zX} {cc : ByteArray} {n9 : Nat} {rm rmc : Room} (C : z_C X cc RL n9 rm) (hR : rmc.frames + 1 ≤ rm.frames ∧ 8 + (5 + 11) + rmc.locals ≤ rm.locals) : vx_CSW (z_R X) (z_s X) (z_a X) RL 154 (qL_fresh).1 (qL_fresh).2.1 (qL_fresh).2.2.1 (qL_fresh).2.2.2 [(0, 11, 14, 19), (0, 11, 18, 21)] (z_hs qL_fresh [(0, 11, 14, 19), (0, 11, 18, 21)]) rmc rmc.cells rmc.slots 4 := z_cwH (q := qL_fresh) C kh_fresh kw729 kw730 kw0 (by decide +kernel) hR
abbrev qL_twin : zY := (yL_twin, cL_twin, 5, some .int)
theorem kh_twin : Cond.codeWith (qL_twin).1 (qL_twin).2.1 (qL_twin).2.2.1 (qL_twin).2.2.2 [(0, 11, 14, 19)] ∈ gw := gw_4 (i := 18) rfl rfl
theorem ch_twin {X : zX} {cc : ByteArray} {n9 : Nat} {rm rmc : Room} (C : z_C X cc RL n9 rm) (hR : rmc.frames + 1 ≤ rm.frames ∧ 8 + (5 + 11) + rmc.locals ≤ rm.locals) : vx_CSW (z_R X) (z_s X) (z_a X) RL 158 (qL_twin).1 (qL_twin).2.1 (qL_twin).2.2.1 (qL_twin).2.2.2 [(0, 11, 14, 19)] (z_hs qL_twin [(0, 11, 14, 19)]) rmc rmc.cells rmc.slots 4 := z_cwH (q := qL_twin) C kh_twin kw736 kw737 kw0 (by decide +kernel) hR
abbrev qL_rest : zY := (yL_rest, cL_rest, 5, some .int)
theorem kh_rest : Cond.codeWith (qL_rest).1 (qL_rest).2.1 (qL_rest).2.2.1 (qL_rest).2.2.2 [(0, 11, 14, 19)] ∈ gw := gw_4 (i := 25) rfl rfl
theorem ch_rest {X : zX} {cc : ByteArray} {n9 : Nat} {rm rmc : Room} (C : z_C X cc RL n9 rm) (hR : rmc.frames + 1 ≤ rm.frames ∧ 8 + (5 + 11) + rmc.locals ≤ rm.locals) : vx_CSW (z_R X) (z_s X) (z_a X) RL 161 (qL_rest).1 (qL_rest).2.1 (qL_rest).2.2.1 (qL_rest).2.2.2 [(0, 11, 14, 19)] (z_hs qL_rest [(0, 11, 14, 19)]) rmc rmc.cells rmc.slots 4 := z_cwH (q := qL_rest) C kh_rest kw743 kw744 kw0 (by decide +kernel) hR
abbrev qL_part : zY := (yL_part, cL_part, 7, some .int)
theorem kh_part : Cond.codeWith (qL_part).1 (qL_part).2.1 (qL_part).2.2.1 (qL_part).2.2.2 [(0, 15, 18, 19)] ∈ gw := gw_4 (i := 32) rfl rfl
theorem ch_part {X : zX} {cc : ByteArray} {n9 : Nat} {rm rmc : Room} (C : z_C X cc RL n9 rm) (hR : rmc.frames + 1 ≤ rm.frames ∧ 8 + (7 + 11) + rmc.locals ≤ rm.locals) : vx_CSW (z_R X) (z_s X) (z_a X) RL 164 (qL_part).1 (qL_part).2.1 (qL_part).2.2.1 (qL_part).2.2.2 [(0, 15, 18, 19)] (z_hs qL_part [(0, 15, 18, 19)]) rmc rmc.cells rmc.slots 6 := z_cwH (q := qL_part) C kh_part kw750 kw751 kw0 (by decide +kernel) hR
abbrev qL_reader : zY := (yL_reader, cL_reader, 5, some .int)
theorem kh_reader : Cond.codeWith (qL_reader).1 (qL_reader).2.1 (qL_reader).2.2.1 (qL_reader).2.2.2 [(0, 11, 14, 19)] ∈ gw := gw_4 (i := 43) rfl rfl
theorem ch_reader {X : zX} {cc : ByteArray} {n9 : Nat} {rm rmc : Room} (C : z_C X cc RL n9 rm) (hR : rmc.frames + 1 ≤ rm.frames ∧ 8 + (5 + 11) + rmc.locals ≤ rm.locals) : vx_CSW (z_R X) (z_s X) (z_a X) RL 168 (qL_reader).1 (qL_reader).2.1 (qL_reader).2.2.1 (qL_reader).2.2.2 [(0, 11, 14, 19)] (z_hs qL_reader [(0, 11, 14, 19)]) rmc rmc.cells rmc.slots 4 := z_cwH (q := qL_reader) C kh_reader kw761 kw762 kw0 (by decide +kernel) hR
abbrev qL_exchange : zY := (yL_exchange, cL_exchange, 5, some .int)
theorem kh_exchange : Cond.codeWith (qL_exchange).1 (qL_exchange).2.1 (qL_exchange).2.2.1 (qL_exchange).2.2.2 [(0, 11, 14, 19)] ∈ gw := gw_4 (i := 50) rfl rfl
theorem ch_exchange {X : zX} {cc : ByteArray} {n9 : Nat} {rm rmc : Room} (C : z_C X cc RL n9 rm) (hR : rmc.frames + 1 ≤ rm.frames ∧ 8 + (5 + 11) + rmc.locals ≤ rm.locals) : vx_CSW (z_R X) (z_s X) (z_a X) RL 171 (qL_exchange).1 (qL_exchange).2.1 (qL_exchange).2.2.1 (qL_exchange).2.2.2 [(0, 11, 14, 19)] (z_hs qL_exchange [(0, 11, 14, 19)]) rmc rmc.cells rmc.slots 4 := z_cwH (q := qL_exchange) C kh_exchange kw768 kw769 kw0 (by decide +kernel) hR
abbrev qL_go : zY := (yL_go, cL_go, 5, some .int)
theorem kh_go : Cond.codeWith (qL_go).1 (qL_go).2.1 (qL_go).2.2.1 (qL_go).2.2.2 [(0, 11, 14, 19)] ∈ gw := gw_4 (i := 61) rfl rfl
theorem ch_go {X : zX} {cc : ByteArray} {n9 : Nat} {rm rmc : Room} (C : z_C X cc RL n9 rm) (hR : rmc.frames + 1 ≤ rm.frames ∧ 8 + (5 + 11) + rmc.locals ≤ rm.locals) : vx_CSW (z_R X) (z_s X) (z_a X) RL 174 (qL_go).1 (qL_go).2.1 (qL_go).2.2.1 (qL_go).2.2.2 [(0, 11, 14, 19)] (z_hs qL_go [(0, 11, 14, 19)]) rmc rmc.cells rmc.slots 4 := z_cwH (q := qL_go) C kh_go kw779 kw780 kw0 (by decide +kernel) hR
abbrev qL_move : zY := (yL_move, cL_move, 5, some .int)
theorem kh_move : Cond.codeWith (qL_move).1 (qL_move).2.1 (qL_move).2.2.1 (qL_move).2.2.2 [(0, 11, 14, 19), (0, 11, 18, 21)] ∈ gw := gw_4 (i := 72) rfl rfl
theorem ch_move {X : zX} {cc : ByteArray} {n9 : Nat} {rm rmc : Room} (C : z_C X cc RL n9 rm) (hR : rmc.frames + 1 ≤ rm.frames ∧ 8 + (5 + 11) + rmc.locals ≤ rm.locals) : vx_CSW (z_R X) (z_s X) (z_a X) RL 177 (qL_move).1 (qL_move).2.1 (qL_move).2.2.1 (qL_move).2.2.2 [(0, 11, 14, 19), (0, 11, 18, 21)] (z_hs qL_move [(0, 11, 14, 19), (0, 11, 18, 21)]) rmc rmc.cells rmc.slots 4 := z_cwH (q := qL_move) C kh_move kw790 kw791 kw0 (by decide +kernel) hR
abbrev qL_end : zY := (yL_end, cL_end, 5, some .int)
theorem kh_end : Cond.codeWith (qL_end).1 (qL_end).2.1 (qL_end).2.2.1 (qL_end).2.2.2 [(0, 11, 14, 19)] ∈ gw := gw_4 (i := 79) rfl rfl
theorem ch_end {X : zX} {cc : ByteArray} {n9 : Nat} {rm rmc : Room} (C : z_C X cc RL n9 rm) (hR : rmc.frames + 1 ≤ rm.frames ∧ 8 + (5 + 11) + rmc.locals ≤ rm.locals) : vx_CSW (z_R X) (z_s X) (z_a X) RL 180 (qL_end).1 (qL_end).2.1 (qL_end).2.2.1 (qL_end).2.2.2 [(0, 11, 14, 19)] (z_hs qL_end [(0, 11, 14, 19)]) rmc rmc.cells rmc.slots 4 := z_cwH (q := qL_end) C kh_end kw797 kw798 kw0 (by decide +kernel) hR
abbrev qL_stretch : zY := (yL_stretch, cL_stretch, 5, some .int)
theorem kh_stretch : Cond.codeWith (qL_stretch).1 (qL_stretch).2.1 (qL_stretch).2.2.1 (qL_stretch).2.2.2 [(0, 11, 14, 19), (0, 11, 18, 21)] ∈ gw := gw_4 (i := 90) rfl rfl
theorem ch_stretch {X : zX} {cc : ByteArray} {n9 : Nat} {rm rmc : Room} (C : z_C X cc RL n9 rm) (hR : rmc.frames + 1 ≤ rm.frames ∧ 8 + (5 + 11) + rmc.locals ≤ rm.locals) : vx_CSW (z_R X) (z_s X) (z_a X) RL 183 (qL_stretch).1 (qL_stretch).2.1 (qL_stretch).2.2.1 (qL_stretch).2.2.2 [(0, 11, 14, 19), (0, 11, 18, 21)] (z_hs qL_stretch [(0, 11, 14, 19), (0, 11, 18, 21)]) rmc rmc.cells rmc.slots 4 := z_cwH (q := qL_stretch) C kh_stretch kw808 kw809 kw0 (by decide +kernel) hR
abbrev qL_mark : zY := (yL_mark, cL_mark, 4, some .int)
theorem kh_mark : Cond.codeWith (qL_mark).1 (qL_mark).2.1 (qL_mark).2.2.1 (qL_mark).2.2.2 [(0, 10, 13, 19)] ∈ gw := gw_4 (i := 97) rfl rfl
theorem ch_mark {X : zX} {cc : ByteArray} {n9 : Nat} {rm rmc : Room} (C : z_C X cc RL n9 rm) (hR : rmc.frames + 1 ≤ rm.frames ∧ 8 + (4 + 11) + rmc.locals ≤ rm.locals) : vx_CSW (z_R X) (z_s X) (z_a X) RL 186 (qL_mark).1 (qL_mark).2.1 (qL_mark).2.2.1 (qL_mark).2.2.2 [(0, 10, 13, 19)] (z_hs qL_mark [(0, 10, 13, 19)]) rmc rmc.cells rmc.slots 3 := z_cwH (q := qL_mark) C kh_mark kw815 kw816 kw0 (by decide +kernel) hR
abbrev qL_back : zY := (yL_back, cL_back, 4, some .int)
theorem kh_back : Cond.codeWith (qL_back).1 (qL_back).2.1 (qL_back).2.2.1 (qL_back).2.2.2 [(0, 10, 13, 19)] ∈ gw := gw_4 (i := 104) rfl rfl
theorem ch_back {X : zX} {cc : ByteArray} {n9 : Nat} {rm rmc : Room} (C : z_C X cc RL n9 rm) (hR : rmc.frames + 1 ≤ rm.frames ∧ 8 + (4 + 11) + rmc.locals ≤ rm.locals) : vx_CSW (z_R X) (z_s X) (z_a X) RL 190 (qL_back).1 (qL_back).2.1 (qL_back).2.2.1 (qL_back).2.2.2 [(0, 10, 13, 19)] (z_hs qL_back [(0, 10, 13, 19)]) rmc rmc.cells rmc.slots 3 := z_cwH (q := qL_back) C kh_back kw822 kw823 kw0 (by decide +kernel) hR
abbrev qL_clear : zY := (yL_clear, cL_clear, 4, some .int)
theorem kh_clear : Cond.codeWith (qL_clear).1 (qL_clear).2.1 (qL_clear).2.2.1 (qL_clear).2.2.2 [(0, 10, 13, 19)] ∈ gw := gw_4 (i := 111) rfl rfl
theorem ch_clear {X : zX} {cc : ByteArray} {n9 : Nat} {rm rmc : Room} (C : z_C X cc RL n9 rm) (hR : rmc.frames + 1 ≤ rm.frames ∧ 8 + (4 + 11) + rmc.locals ≤ rm.locals) : vx_CSW (z_R X) (z_s X) (z_a X) RL 193 (qL_clear).1 (qL_clear).2.1 (qL_clear).2.2.1 (qL_clear).2.2.2 [(0, 10, 13, 19)] (z_hs qL_clear [(0, 10, 13, 19)]) rmc rmc.cells rmc.slots 3 := z_cwH (q := qL_clear) C kh_clear kw829 kw830 kw0 (by decide +kernel) hR
abbrev qL_flip : zY := (yL_flip, cL_flip, 4, some .int)
theorem kh_flip : Cond.codeWith (qL_flip).1 (qL_flip).2.1 (qL_flip).2.2.1 (qL_flip).2.2.2 [(0, 10, 13, 19)] ∈ gw := gw_4 (i := 119) rfl rfl
theorem ch_flip {X : zX} {cc : ByteArray} {n9 : Nat} {rm rmc : Room} (C : z_C X cc RL n9 rm) (hR : rmc.frames + 1 ≤ rm.frames ∧ 8 + (4 + 11) + rmc.locals ≤ rm.locals) : vx_CSW (z_R X) (z_s X) (z_a X) RL 196 (qL_flip).1 (qL_flip).2.1 (qL_flip).2.2.1 (qL_flip).2.2.2 [(0, 10, 13, 19)] (z_hs qL_flip [(0, 10, 13, 19)]) rmc rmc.cells rmc.slots 3 := z_cwH (q := qL_flip) C kh_flip kw837 kw838 kw0 (by decide +kernel) hR
abbrev qL_rewind : zY := (yL_rewind, cL_rewind, 4, some .int)
theorem kh_rewind : Cond.codeWith (qL_rewind).1 (qL_rewind).2.1 (qL_rewind).2.2.1 (qL_rewind).2.2.2 [(0, 10, 13, 19)] ∈ gw := gw_4 (i := 126) rfl rfl
theorem ch_rewind {X : zX} {cc : ByteArray} {n9 : Nat} {rm rmc : Room} (C : z_C X cc RL n9 rm) (hR : rmc.frames + 1 ≤ rm.frames ∧ 8 + (4 + 11) + rmc.locals ≤ rm.locals) : vx_CSW (z_R X) (z_s X) (z_a X) RL 199 (qL_rewind).1 (qL_rewind).2.1 (qL_rewind).2.2.1 (qL_rewind).2.2.2 [(0, 10, 13, 19)] (z_hs qL_rewind [(0, 10, 13, 19)]) rmc rmc.cells rmc.slots 3 := z_cwH (q := qL_rewind) C kh_rewind kw844 kw845 kw0 (by decide +kernel) hR
abbrev qL_put : zY := (yL_put, cL_put, 5, some .int)
theorem kh_put : Cond.codeWith (qL_put).1 (qL_put).2.1 (qL_put).2.2.1 (qL_put).2.2.2 [(0, 11, 14, 19), (0, 11, 18, 21)] ∈ gw := gw_4 (i := 133) rfl rfl
theorem ch_put {X : zX} {cc : ByteArray} {n9 : Nat} {rm rmc : Room} (C : z_C X cc RL n9 rm) (hR : rmc.frames + 1 ≤ rm.frames ∧ 8 + (5 + 11) + rmc.locals ≤ rm.locals) : vx_CSW (z_R X) (z_s X) (z_a X) RL 202 (qL_put).1 (qL_put).2.1 (qL_put).2.2.1 (qL_put).2.2.2 [(0, 11, 14, 19), (0, 11, 18, 21)] (z_hs qL_put [(0, 11, 14, 19), (0, 11, 18, 21)]) rmc rmc.cells rmc.slots 4 := z_cwH (q := qL_put) C kh_put kw851 kw852 kw0 (by decide +kernel) hR
abbrev qL_putAt : zY := (yL_putAt, cL_putAt, 6, some .int)
theorem kh_putAt : Cond.codeWith (qL_putAt).1 (qL_putAt).2.1 (qL_putAt).2.2.1 (qL_putAt).2.2.2 [(0, 13, 16, 19), (0, 13, 20, 21)] ∈ gw := gw_4 (i := 160) rfl rfl
theorem ch_putAt {X : zX} {cc : ByteArray} {n9 : Nat} {rm rmc : Room} (C : z_C X cc RL n9 rm) (hR : rmc.frames + 1 ≤ rm.frames ∧ 8 + (6 + 11) + rmc.locals ≤ rm.locals) : vx_CSW (z_R X) (z_s X) (z_a X) RL 205 (qL_putAt).1 (qL_putAt).2.1 (qL_putAt).2.2.1 (qL_putAt).2.2.2 [(0, 13, 16, 19), (0, 13, 20, 21)] (z_hs qL_putAt [(0, 13, 16, 19), (0, 13, 20, 21)]) rmc rmc.cells rmc.slots 5 := z_cwH (q := qL_putAt) C kh_putAt kw878 kw879 kw0 (by decide +kernel) hR
abbrev qL_bring : zY := (yL_bring, cL_bring, 7, some .int)
theorem kh_bring : Cond.codeWith (qL_bring).1 (qL_bring).2.1 (qL_bring).2.2.1 (qL_bring).2.2.2 [(0, 15, 18, 19)] ∈ gw := gw_4 (i := 172) rfl rfl
theorem ch_bring {X : zX} {cc : ByteArray} {n9 : Nat} {rm rmc : Room} (C : z_C X cc RL n9 rm) (hR : rmc.frames + 1 ≤ rm.frames ∧ 8 + (7 + 11) + rmc.locals ≤ rm.locals) : vx_CSW (z_R X) (z_s X) (z_a X) RL 208 (qL_bring).1 (qL_bring).2.1 (qL_bring).2.2.1 (qL_bring).2.2.2 [(0, 15, 18, 19)] (z_hs qL_bring [(0, 15, 18, 19)]) rmc rmc.cells rmc.slots 6 := z_cwH (q := qL_bring) C kh_bring kw890 kw891 kw0 (by decide +kernel) hR
abbrev qL_fill : zY := (yL_fill, cL_fill, 7, some .int)
theorem kh_fill : Cond.codeWith (qL_fill).1 (qL_fill).2.1 (qL_fill).2.2.1 (qL_fill).2.2.2 [(0, 15, 18, 19), (0, 15, 22, 21)] ∈ gw := gw_4 (i := 179) rfl rfl
theorem ch_fill {X : zX} {cc : ByteArray} {n9 : Nat} {rm rmc : Room} (C : z_C X cc RL n9 rm) (hR : rmc.frames + 1 ≤ rm.frames ∧ 8 + (7 + 11) + rmc.locals ≤ rm.locals) : vx_CSW (z_R X) (z_s X) (z_a X) RL 211 (qL_fill).1 (qL_fill).2.1 (qL_fill).2.2.1 (qL_fill).2.2.2 [(0, 15, 18, 19), (0, 15, 22, 21)] (z_hs qL_fill [(0, 15, 18, 19), (0, 15, 22, 21)]) rmc rmc.cells rmc.slots 6 := z_cwH (q := qL_fill) C kh_fill kw897 kw898 kw0 (by decide +kernel) hR
abbrev qL_pack : zY := (yL_pack, cL_pack, 4, some .int)
theorem kh_pack : Cond.codeWith (qL_pack).1 (qL_pack).2.1 (qL_pack).2.2.1 (qL_pack).2.2.2 [(0, 10, 13, 19)] ∈ gw := gw_4 (i := 187) rfl rfl
theorem ch_pack {X : zX} {cc : ByteArray} {n9 : Nat} {rm rmc : Room} (C : z_C X cc RL n9 rm) (hR : rmc.frames + 1 ≤ rm.frames ∧ 8 + (4 + 11) + rmc.locals ≤ rm.locals) : vx_CSW (z_R X) (z_s X) (z_a X) RL 214 (qL_pack).1 (qL_pack).2.1 (qL_pack).2.2.1 (qL_pack).2.2.2 [(0, 10, 13, 19)] (z_hs qL_pack [(0, 10, 13, 19)]) rmc rmc.cells rmc.slots 3 := z_cwH (q := qL_pack) C kh_pack kw905 kw906 kw0 (by decide +kernel) hR
abbrev qL_pour : zY := (yL_pour, cL_pour, 6, some .int)
theorem kh_pour : Cond.codeWith (qL_pour).1 (qL_pour).2.1 (qL_pour).2.2.1 (qL_pour).2.2.2 [(0, 13, 16, 19), (0, 13, 20, 21)] ∈ gw := gw_4 (i := 194) rfl rfl
theorem ch_pour {X : zX} {cc : ByteArray} {n9 : Nat} {rm rmc : Room} (C : z_C X cc RL n9 rm) (hR : rmc.frames + 1 ≤ rm.frames ∧ 8 + (6 + 11) + rmc.locals ≤ rm.locals) : vx_CSW (z_R X) (z_s X) (z_a X) RL 217 (qL_pour).1 (qL_pour).2.1 (qL_pour).2.2.1 (qL_pour).2.2.2 [(0, 13, 16, 19), (0, 13, 20, 21)] (z_hs qL_pour [(0, 13, 16, 19), (0, 13, 20, 21)]) rmc rmc.cells rmc.slots 5 := z_cwH (q := qL_pour) C kh_pour kw912 kw913 kw0 (by decide +kernel) hR
abbrev qL_lay : zY := (yL_lay, cL_lay, 5, some .int)
theorem kh_lay : Cond.codeWith (qL_lay).1 (qL_lay).2.1 (qL_lay).2.2.1 (qL_lay).2.2.2 [(0, 11, 14, 19), (0, 11, 18, 21)] ∈ gw := gw_4 (i := 209) rfl rfl
theorem ch_lay {X : zX} {cc : ByteArray} {n9 : Nat} {rm rmc : Room} (C : z_C X cc RL n9 rm) (hR : rmc.frames + 1 ≤ rm.frames ∧ 8 + (5 + 11) + rmc.locals ≤ rm.locals) : vx_CSW (z_R X) (z_s X) (z_a X) RL 220 (qL_lay).1 (qL_lay).2.1 (qL_lay).2.2.1 (qL_lay).2.2.2 [(0, 11, 14, 19), (0, 11, 18, 21)] (z_hs qL_lay [(0, 11, 14, 19), (0, 11, 18, 21)]) rmc rmc.cells rmc.slots 4 := z_cwH (q := qL_lay) C kh_lay kw927 kw928 kw0 (by decide +kernel) hR
abbrev qL_reach : zY := (yL_reach, cL_reach, 6, some .int)
theorem kh_reach : Cond.codeWith (qL_reach).1 (qL_reach).2.1 (qL_reach).2.2.1 (qL_reach).2.2.2 [(0, 13, 16, 19), (0, 13, 20, 21)] ∈ gw := gw_4 (i := 219) rfl rfl
theorem ch_reach {X : zX} {cc : ByteArray} {n9 : Nat} {rm rmc : Room} (C : z_C X cc RL n9 rm) (hR : rmc.frames + 1 ≤ rm.frames ∧ 8 + (6 + 11) + rmc.locals ≤ rm.locals) : vx_CSW (z_R X) (z_s X) (z_a X) RL 223 (qL_reach).1 (qL_reach).2.1 (qL_reach).2.2.1 (qL_reach).2.2.2 [(0, 13, 16, 19), (0, 13, 20, 21)] (z_hs qL_reach [(0, 13, 16, 19), (0, 13, 20, 21)]) rmc rmc.cells rmc.slots 5 := z_cwH (q := qL_reach) C kh_reach kw937 kw938 kw0 (by decide +kernel) hR
abbrev qL_get : zY := (yL_get, cL_get, 4, some .int)
theorem kh_get : Cond.codeWith (qL_get).1 (qL_get).2.1 (qL_get).2.2.1 (qL_get).2.2.2 [(0, 10, 13, 19)] ∈ gw := gw_4 (i := 226) rfl rfl
theorem ch_get {X : zX} {cc : ByteArray} {n9 : Nat} {rm rmc : Room} (C : z_C X cc RL n9 rm) (hR : rmc.frames + 1 ≤ rm.frames ∧ 8 + (4 + 11) + rmc.locals ≤ rm.locals) : vx_CSW (z_R X) (z_s X) (z_a X) RL 226 (qL_get).1 (qL_get).2.1 (qL_get).2.2.1 (qL_get).2.2.2 [(0, 10, 13, 19)] (z_hs qL_get [(0, 10, 13, 19)]) rmc rmc.cells rmc.slots 3 := z_cwH (q := qL_get) C kh_get kw944 kw945 kw0 (by decide +kernel) hR
abbrev qL_drain : zY := (yL_drain, cL_drain, 5, some .int)
theorem kh_drain : Cond.codeWith (qL_drain).1 (qL_drain).2.1 (qL_drain).2.2.1 (qL_drain).2.2.2 [(0, 11, 14, 19), (0, 11, 18, 21)] ∈ gw := gw_4 (i := 233) rfl rfl
theorem ch_drain {X : zX} {cc : ByteArray} {n9 : Nat} {rm rmc : Room} (C : z_C X cc RL n9 rm) (hR : rmc.frames + 1 ≤ rm.frames ∧ 8 + (5 + 11) + rmc.locals ≤ rm.locals) : vx_CSW (z_R X) (z_s X) (z_a X) RL 229 (qL_drain).1 (qL_drain).2.1 (qL_drain).2.2.1 (qL_drain).2.2.2 [(0, 11, 14, 19), (0, 11, 18, 21)] (z_hs qL_drain [(0, 11, 14, 19), (0, 11, 18, 21)]) rmc rmc.cells rmc.slots 4 := z_cwH (q := qL_drain) C kh_drain kw951 kw952 kw0 (by decide +kernel) hR
abbrev qL_pop : zY := (yL_pop, cL_pop, 4, some .int)
theorem kh_pop : Cond.codeWith (qL_pop).1 (qL_pop).2.1 (qL_pop).2.2.1 (qL_pop).2.2.2 [(0, 10, 13, 19)] ∈ gw := gw_5 (i := 0) rfl rfl
theorem ch_pop {X : zX} {cc : ByteArray} {n9 : Nat} {rm rmc : Room} (C : z_C X cc RL n9 rm) (hR : rmc.frames + 1 ≤ rm.frames ∧ 8 + (4 + 11) + rmc.locals ≤ rm.locals) : vx_CSW (z_R X) (z_s X) (z_a X) RL 232 (qL_pop).1 (qL_pop).2.1 (qL_pop).2.2.1 (qL_pop).2.2.2 [(0, 10, 13, 19)] (z_hs qL_pop [(0, 10, 13, 19)]) rmc rmc.cells rmc.slots 3 := z_cwH (q := qL_pop) C kh_pop kw958 kw959 kw0 (by decide +kernel) hR
abbrev qL_ofPane : zY := (yL_ofPane, cL_ofPane, 5, some .int)
theorem kh_ofPane : Cond.codeWith (qL_ofPane).1 (qL_ofPane).2.1 (qL_ofPane).2.2.1 (qL_ofPane).2.2.2 [(0, 11, 14, 19), (0, 11, 18, 21)] ∈ gw := gw_5 (i := 7) rfl rfl
theorem ch_ofPane {X : zX} {cc : ByteArray} {n9 : Nat} {rm rmc : Room} (C : z_C X cc RL n9 rm) (hR : rmc.frames + 1 ≤ rm.frames ∧ 8 + (5 + 11) + rmc.locals ≤ rm.locals) : vx_CSW (z_R X) (z_s X) (z_a X) RL 235 (qL_ofPane).1 (qL_ofPane).2.1 (qL_ofPane).2.2.1 (qL_ofPane).2.2.2 [(0, 11, 14, 19), (0, 11, 18, 21)] (z_hs qL_ofPane [(0, 11, 14, 19), (0, 11, 18, 21)]) rmc rmc.cells rmc.slots 4 := z_cwH (q := qL_ofPane) C kh_ofPane kw965 kw966 kw0 (by decide +kernel) hR
abbrev qL_at : zY := (yL_at, cL_at, 5, some .int)
theorem kh_at : Cond.codeWith (qL_at).1 (qL_at).2.1 (qL_at).2.2.1 (qL_at).2.2.2 [(0, 11, 14, 19)] ∈ gw := gw_5 (i := 14) rfl rfl
theorem ch_at {X : zX} {cc : ByteArray} {n9 : Nat} {rm rmc : Room} (C : z_C X cc RL n9 rm) (hR : rmc.frames + 1 ≤ rm.frames ∧ 8 + (5 + 11) + rmc.locals ≤ rm.locals) : vx_CSW (z_R X) (z_s X) (z_a X) RL 238 (qL_at).1 (qL_at).2.1 (qL_at).2.2.1 (qL_at).2.2.2 [(0, 11, 14, 19)] (z_hs qL_at [(0, 11, 14, 19)]) rmc rmc.cells rmc.slots 4 := z_cwH (q := qL_at) C kh_at kw972 kw973 kw0 (by decide +kernel) hR
abbrev qL_peek : zY := (yL_peek, cL_peek, 4, some .int)
theorem kh_peek : Cond.codeWith (qL_peek).1 (qL_peek).2.1 (qL_peek).2.2.1 (qL_peek).2.2.2 [(0, 10, 13, 19)] ∈ gw := gw_5 (i := 21) rfl rfl
theorem ch_peek {X : zX} {cc : ByteArray} {n9 : Nat} {rm rmc : Room} (C : z_C X cc RL n9 rm) (hR : rmc.frames + 1 ≤ rm.frames ∧ 8 + (4 + 11) + rmc.locals ≤ rm.locals) : vx_CSW (z_R X) (z_s X) (z_a X) RL 241 (qL_peek).1 (qL_peek).2.1 (qL_peek).2.2.1 (qL_peek).2.2.2 [(0, 10, 13, 19)] (z_hs qL_peek [(0, 10, 13, 19)]) rmc rmc.cells rmc.slots 3 := z_cwH (q := qL_peek) C kh_peek kw979 kw980 kw0 (by decide +kernel) hR
abbrev qL_total : zY := (yL_total, cL_total, 4, some .int)
theorem kh_total : Cond.codeWith (qL_total).1 (qL_total).2.1 (qL_total).2.2.1 (qL_total).2.2.2 [(0, 9, 12, 19)] ∈ gw := gw_5 (i := 28) rfl rfl
theorem ch_total {X : zX} {cc : ByteArray} {n9 : Nat} {rm rmc : Room} (C : z_C X cc RL n9 rm) (hR : rmc.frames + 1 ≤ rm.frames ∧ 8 + (4 + 11) + rmc.locals ≤ rm.locals) : vx_CSW (z_R X) (z_s X) (z_a X) RL 244 (qL_total).1 (qL_total).2.1 (qL_total).2.2.1 (qL_total).2.2.2 [(0, 9, 12, 19)] (z_hs qL_total [(0, 9, 12, 19)]) rmc rmc.cells rmc.slots 3 := z_cwH (q := qL_total) C kh_total kw986 kw987 kw0 (by decide +kernel) hR
abbrev qL_text : zY := (yL_text, cL_text, 4, some .int)
theorem kh_text : Cond.codeWith (qL_text).1 (qL_text).2.1 (qL_text).2.2.1 (qL_text).2.2.2 [(0, 9, 12, 19)] ∈ gw := gw_5 (i := 35) rfl rfl
theorem ch_text {X : zX} {cc : ByteArray} {n9 : Nat} {rm rmc : Room} (C : z_C X cc RL n9 rm) (hR : rmc.frames + 1 ≤ rm.frames ∧ 8 + (4 + 11) + rmc.locals ≤ rm.locals) : vx_CSW (z_R X) (z_s X) (z_a X) RL 253 (qL_text).1 (qL_text).2.1 (qL_text).2.2.1 (qL_text).2.2.2 [(0, 9, 12, 19)] (z_hs qL_text [(0, 9, 12, 19)]) rmc rmc.cells rmc.slots 3 := z_cwH (q := qL_text) C kh_text kw993 kw994 kw0 (by decide +kernel) hR
abbrev qL_whole : zY := (yL_whole, cL_whole, 4, some .int)
theorem kh_whole : Cond.codeWith (qL_whole).1 (qL_whole).2.1 (qL_whole).2.2.1 (qL_whole).2.2.2 [(0, 9, 12, 19)] ∈ gw := gw_5 (i := 42) rfl rfl
theorem ch_whole {X : zX} {cc : ByteArray} {n9 : Nat} {rm rmc : Room} (C : z_C X cc RL n9 rm) (hR : rmc.frames + 1 ≤ rm.frames ∧ 8 + (4 + 11) + rmc.locals ≤ rm.locals) : vx_CSW (z_R X) (z_s X) (z_a X) RL 256 (qL_whole).1 (qL_whole).2.1 (qL_whole).2.2.1 (qL_whole).2.2.2 [(0, 9, 12, 19)] (z_hs qL_whole [(0, 9, 12, 19)]) rmc rmc.cells rmc.slots 3 := z_cwH (q := qL_whole) C kh_whole kw1000 kw1001 kw0 (by decide +kernel) hR
abbrev qL_isKin : zY := (yL_isKin, cL_isKin, 5, some .int)
theorem kh_isKin : Cond.codeWith (qL_isKin).1 (qL_isKin).2.1 (qL_isKin).2.2.1 (qL_isKin).2.2.2 [(0, 11, 14, 19)] ∈ gw := gw_5 (i := 49) rfl rfl
theorem ch_isKin {X : zX} {cc : ByteArray} {n9 : Nat} {rm rmc : Room} (C : z_C X cc RL n9 rm) (hR : rmc.frames + 1 ≤ rm.frames ∧ 8 + (5 + 11) + rmc.locals ≤ rm.locals) : vx_CSW (z_R X) (z_s X) (z_a X) RL 264 (qL_isKin).1 (qL_isKin).2.1 (qL_isKin).2.2.1 (qL_isKin).2.2.2 [(0, 11, 14, 19)] (z_hs qL_isKin [(0, 11, 14, 19)]) rmc rmc.cells rmc.slots 4 := z_cwH (q := qL_isKin) C kh_isKin kw1007 kw1008 kw0 (by decide +kernel) hR
abbrev qL_sees : zY := (yL_sees, cL_sees, 6, some .int)
theorem kh_sees : Cond.codeWith (qL_sees).1 (qL_sees).2.1 (qL_sees).2.2.1 (qL_sees).2.2.2 [(0, 13, 16, 19)] ∈ gw := gw_5 (i := 56) rfl rfl
theorem ch_sees {X : zX} {cc : ByteArray} {n9 : Nat} {rm rmc : Room} (C : z_C X cc RL n9 rm) (hR : rmc.frames + 1 ≤ rm.frames ∧ 8 + (6 + 11) + rmc.locals ≤ rm.locals) : vx_CSW (z_R X) (z_s X) (z_a X) RL 267 (qL_sees).1 (qL_sees).2.1 (qL_sees).2.2.1 (qL_sees).2.2.2 [(0, 13, 16, 19)] (z_hs qL_sees [(0, 13, 16, 19)]) rmc rmc.cells rmc.slots 5 := z_cwH (q := qL_sees) C kh_sees kw1014 kw1015 kw0 (by decide +kernel) hR
abbrev qL_would : zY := (yL_would, cL_would, 5, some .int)
theorem kh_would : Cond.codeWith (qL_would).1 (qL_would).2.1 (qL_would).2.2.1 (qL_would).2.2.2 [(0, 11, 14, 19), (0, 11, 18, 21)] ∈ gw := gw_5 (i := 63) rfl rfl
theorem ch_would {X : zX} {cc : ByteArray} {n9 : Nat} {rm rmc : Room} (C : z_C X cc RL n9 rm) (hR : rmc.frames + 1 ≤ rm.frames ∧ 8 + (5 + 11) + rmc.locals ≤ rm.locals) : vx_CSW (z_R X) (z_s X) (z_a X) RL 270 (qL_would).1 (qL_would).2.1 (qL_would).2.2.1 (qL_would).2.2.2 [(0, 11, 14, 19), (0, 11, 18, 21)] (z_hs qL_would [(0, 11, 14, 19), (0, 11, 18, 21)]) rmc rmc.cells rmc.slots 4 := z_cwH (q := qL_would) C kh_would kw1021 kw1022 kw0 (by decide +kernel) hR
abbrev qL_house : zY := (yL_house, cL_house, 4, some .int)
theorem kh_house : Cond.codeWith (qL_house).1 (qL_house).2.1 (qL_house).2.2.1 (qL_house).2.2.2 [(0, 10, 13, 21)] ∈ gw := gw_5 (i := 70) rfl rfl
theorem ch_house {X : zX} {cc : ByteArray} {n9 : Nat} {rm rmc : Room} (C : z_C X cc RL n9 rm) (hR : rmc.frames + 1 ≤ rm.frames ∧ 8 + (4 + 11) + rmc.locals ≤ rm.locals) : vx_CSW (z_R X) (z_s X) (z_a X) RL 273 (qL_house).1 (qL_house).2.1 (qL_house).2.2.1 (qL_house).2.2.2 [(0, 10, 13, 21)] (z_hs qL_house [(0, 10, 13, 21)]) rmc rmc.cells rmc.slots 3 := z_cwH (q := qL_house) C kh_house kw1028 kw1029 kw0 (by decide +kernel) hR
theorem dL_wrap_0 : decode cL_wrap 0 = .ok (.aload 4, 2) := by decide +kernel
theorem dL_wrap_2 : decode cL_wrap 2 = .ok (.aload_n 0, 1) := by decide +kernel
theorem dL_wrap_3 : decode cL_wrap 3 = .ok (.iload_n 1, 1) := by decide +kernel
theorem dL_wrap_4 : decode cL_wrap 4 = .ok (.iload_n 2, 1) := by decide +kernel
theorem dL_wrap_5 : decode cL_wrap 5 = .ok (.iload_n 3, 1) := by decide +kernel
theorem dL_wrap_6 : decode cL_wrap 6 = .ok (.invokevirtual 7, 3) := by decide +kernel
theorem dL_wrap_9 : decode cL_wrap 9 = .ok (.i2l, 1) := by decide +kernel
theorem dL_wrap_10 : decode cL_wrap 10 = .ok (.putfield 13, 3) := by decide +kernel
theorem dL_wrap_13 : decode cL_wrap 13 = .ok (.goto 11, 3) := by decide +kernel
theorem dL_wrap_16 : decode cL_wrap 16 = .ok (.astore 5, 2) := by decide +kernel
theorem dL_wrap_18 : decode cL_wrap 18 = .ok (.iconst 1, 1) := by decide +kernel
theorem dL_wrap_19 : decode cL_wrap 19 = .ok (.ireturn, 1) := by decide +kernel
theorem dL_wrap_20 : decode cL_wrap 20 = .ok (.astore 5, 2) := by decide +kernel
theorem dL_wrap_22 : decode cL_wrap 22 = .ok (.iconst 2, 1) := by decide +kernel
theorem dL_wrap_23 : decode cL_wrap 23 = .ok (.ireturn, 1) := by decide +kernel
theorem dL_wrap_24 : decode cL_wrap 24 = .ok (.iconst 0, 1) := by decide +kernel
theorem dL_wrap_25 : decode cL_wrap 25 = .ok (.ireturn, 1) := by decide +kernel
theorem dL_fresh_0 : decode cL_fresh 0 = .ok (.aload_n 3, 1) := by decide +kernel
theorem dL_fresh_1 : decode cL_fresh 1 = .ok (.aload_n 0, 1) := by decide +kernel
theorem dL_fresh_2 : decode cL_fresh 2 = .ok (.iload_n 1, 1) := by decide +kernel
theorem dL_fresh_3 : decode cL_fresh 3 = .ok (.iload_n 2, 1) := by decide +kernel
theorem dL_fresh_4 : decode cL_fresh 4 = .ok (.invokevirtual 23, 3) := by decide +kernel
theorem dL_fresh_7 : decode cL_fresh 7 = .ok (.i2l, 1) := by decide +kernel
theorem dL_fresh_8 : decode cL_fresh 8 = .ok (.putfield 13, 3) := by decide +kernel
theorem dL_fresh_11 : decode cL_fresh 11 = .ok (.goto 11, 3) := by decide +kernel
theorem dL_fresh_14 : decode cL_fresh 14 = .ok (.astore 4, 2) := by decide +kernel
theorem dL_fresh_16 : decode cL_fresh 16 = .ok (.iconst 1, 1) := by decide +kernel
theorem dL_fresh_17 : decode cL_fresh 17 = .ok (.ireturn, 1) := by decide +kernel
theorem dL_fresh_18 : decode cL_fresh 18 = .ok (.astore 4, 2) := by decide +kernel
theorem dL_fresh_20 : decode cL_fresh 20 = .ok (.iconst 2, 1) := by decide +kernel
theorem dL_fresh_21 : decode cL_fresh 21 = .ok (.ireturn, 1) := by decide +kernel
theorem dL_fresh_22 : decode cL_fresh 22 = .ok (.iconst 0, 1) := by decide +kernel
theorem dL_fresh_23 : decode cL_fresh 23 = .ok (.ireturn, 1) := by decide +kernel
theorem dL_twin_0 : decode cL_twin 0 = .ok (.aload_n 3, 1) := by decide +kernel
theorem dL_twin_1 : decode cL_twin 1 = .ok (.aload_n 0, 1) := by decide +kernel
theorem dL_twin_2 : decode cL_twin 2 = .ok (.iload_n 1, 1) := by decide +kernel
theorem dL_twin_3 : decode cL_twin 3 = .ok (.iload_n 2, 1) := by decide +kernel
theorem dL_twin_4 : decode cL_twin 4 = .ok (.invokevirtual 27, 3) := by decide +kernel
theorem dL_twin_7 : decode cL_twin 7 = .ok (.i2l, 1) := by decide +kernel
theorem dL_twin_8 : decode cL_twin 8 = .ok (.putfield 13, 3) := by decide +kernel
theorem dL_twin_11 : decode cL_twin 11 = .ok (.goto 7, 3) := by decide +kernel
theorem dL_twin_14 : decode cL_twin 14 = .ok (.astore 4, 2) := by decide +kernel
theorem dL_twin_16 : decode cL_twin 16 = .ok (.iconst 1, 1) := by decide +kernel
theorem dL_twin_17 : decode cL_twin 17 = .ok (.ireturn, 1) := by decide +kernel
theorem dL_twin_18 : decode cL_twin 18 = .ok (.iconst 0, 1) := by decide +kernel
theorem dL_twin_19 : decode cL_twin 19 = .ok (.ireturn, 1) := by decide +kernel
theorem dL_rest_0 : decode cL_rest 0 = .ok (.aload_n 3, 1) := by decide +kernel
theorem dL_rest_1 : decode cL_rest 1 = .ok (.aload_n 0, 1) := by decide +kernel
theorem dL_rest_2 : decode cL_rest 2 = .ok (.iload_n 1, 1) := by decide +kernel
theorem dL_rest_3 : decode cL_rest 3 = .ok (.iload_n 2, 1) := by decide +kernel
theorem dL_rest_4 : decode cL_rest 4 = .ok (.invokevirtual 30, 3) := by decide +kernel
theorem dL_rest_7 : decode cL_rest 7 = .ok (.i2l, 1) := by decide +kernel
theorem dL_rest_8 : decode cL_rest 8 = .ok (.putfield 13, 3) := by decide +kernel
theorem dL_rest_11 : decode cL_rest 11 = .ok (.goto 7, 3) := by decide +kernel
theorem dL_rest_14 : decode cL_rest 14 = .ok (.astore 4, 2) := by decide +kernel
theorem dL_rest_16 : decode cL_rest 16 = .ok (.iconst 1, 1) := by decide +kernel
theorem dL_rest_17 : decode cL_rest 17 = .ok (.ireturn, 1) := by decide +kernel
theorem dL_rest_18 : decode cL_rest 18 = .ok (.iconst 0, 1) := by decide +kernel
theorem dL_rest_19 : decode cL_rest 19 = .ok (.ireturn, 1) := by decide +kernel
theorem dL_part_0 : decode cL_part 0 = .ok (.aload 5, 2) := by decide +kernel
theorem dL_part_2 : decode cL_part 2 = .ok (.aload_n 0, 1) := by decide +kernel
theorem dL_part_3 : decode cL_part 3 = .ok (.iload_n 1, 1) := by decide +kernel
theorem dL_part_4 : decode cL_part 4 = .ok (.iload_n 2, 1) := by decide +kernel
theorem dL_part_5 : decode cL_part 5 = .ok (.iload_n 3, 1) := by decide +kernel
theorem dL_part_6 : decode cL_part 6 = .ok (.iload 4, 2) := by decide +kernel
theorem dL_part_8 : decode cL_part 8 = .ok (.invokevirtual 33, 3) := by decide +kernel
theorem dL_part_11 : decode cL_part 11 = .ok (.i2l, 1) := by decide +kernel
theorem dL_part_12 : decode cL_part 12 = .ok (.putfield 13, 3) := by decide +kernel
theorem dL_part_15 : decode cL_part 15 = .ok (.goto 7, 3) := by decide +kernel
theorem dL_part_18 : decode cL_part 18 = .ok (.astore 6, 2) := by decide +kernel
theorem dL_part_20 : decode cL_part 20 = .ok (.iconst 1, 1) := by decide +kernel
theorem dL_part_21 : decode cL_part 21 = .ok (.ireturn, 1) := by decide +kernel
theorem dL_part_22 : decode cL_part 22 = .ok (.iconst 0, 1) := by decide +kernel
theorem dL_part_23 : decode cL_part 23 = .ok (.ireturn, 1) := by decide +kernel
theorem dL_reader_0 : decode cL_reader 0 = .ok (.aload_n 3, 1) := by decide +kernel
theorem dL_reader_1 : decode cL_reader 1 = .ok (.aload_n 0, 1) := by decide +kernel
theorem dL_reader_2 : decode cL_reader 2 = .ok (.iload_n 1, 1) := by decide +kernel
theorem dL_reader_3 : decode cL_reader 3 = .ok (.iload_n 2, 1) := by decide +kernel
theorem dL_reader_4 : decode cL_reader 4 = .ok (.invokevirtual 37, 3) := by decide +kernel
theorem dL_reader_7 : decode cL_reader 7 = .ok (.i2l, 1) := by decide +kernel
theorem dL_reader_8 : decode cL_reader 8 = .ok (.putfield 13, 3) := by decide +kernel
theorem dL_reader_11 : decode cL_reader 11 = .ok (.goto 7, 3) := by decide +kernel
theorem dL_reader_14 : decode cL_reader 14 = .ok (.astore 4, 2) := by decide +kernel
theorem dL_reader_16 : decode cL_reader 16 = .ok (.iconst 1, 1) := by decide +kernel
theorem dL_reader_17 : decode cL_reader 17 = .ok (.ireturn, 1) := by decide +kernel
theorem dL_reader_18 : decode cL_reader 18 = .ok (.iconst 0, 1) := by decide +kernel
theorem dL_reader_19 : decode cL_reader 19 = .ok (.ireturn, 1) := by decide +kernel
theorem dL_exchange_0 : decode cL_exchange 0 = .ok (.aload_n 3, 1) := by decide +kernel
theorem dL_exchange_1 : decode cL_exchange 1 = .ok (.aload_n 0, 1) := by decide +kernel
theorem dL_exchange_2 : decode cL_exchange 2 = .ok (.iload_n 1, 1) := by decide +kernel
theorem dL_exchange_3 : decode cL_exchange 3 = .ok (.iload_n 2, 1) := by decide +kernel
theorem dL_exchange_4 : decode cL_exchange 4 = .ok (.invokevirtual 40, 3) := by decide +kernel
theorem dL_exchange_7 : decode cL_exchange 7 = .ok (.i2l, 1) := by decide +kernel
theorem dL_exchange_8 : decode cL_exchange 8 = .ok (.putfield 13, 3) := by decide +kernel
theorem dL_exchange_11 : decode cL_exchange 11 = .ok (.goto 7, 3) := by decide +kernel
theorem dL_exchange_14 : decode cL_exchange 14 = .ok (.astore 4, 2) := by decide +kernel
theorem dL_exchange_16 : decode cL_exchange 16 = .ok (.iconst 1, 1) := by decide +kernel
theorem dL_exchange_17 : decode cL_exchange 17 = .ok (.ireturn, 1) := by decide +kernel
theorem dL_exchange_18 : decode cL_exchange 18 = .ok (.iconst 0, 1) := by decide +kernel
theorem dL_exchange_19 : decode cL_exchange 19 = .ok (.ireturn, 1) := by decide +kernel
theorem dL_go_0 : decode cL_go 0 = .ok (.aload_n 3, 1) := by decide +kernel
theorem dL_go_1 : decode cL_go 1 = .ok (.aload_n 0, 1) := by decide +kernel
theorem dL_go_2 : decode cL_go 2 = .ok (.iload_n 1, 1) := by decide +kernel
theorem dL_go_3 : decode cL_go 3 = .ok (.iload_n 2, 1) := by decide +kernel
theorem dL_go_4 : decode cL_go 4 = .ok (.invokevirtual 43, 3) := by decide +kernel
theorem dL_go_7 : decode cL_go 7 = .ok (.i2l, 1) := by decide +kernel
theorem dL_go_8 : decode cL_go 8 = .ok (.putfield 13, 3) := by decide +kernel
theorem dL_go_11 : decode cL_go 11 = .ok (.goto 7, 3) := by decide +kernel
theorem dL_go_14 : decode cL_go 14 = .ok (.astore 4, 2) := by decide +kernel
theorem dL_go_16 : decode cL_go 16 = .ok (.iconst 1, 1) := by decide +kernel
theorem dL_go_17 : decode cL_go 17 = .ok (.ireturn, 1) := by decide +kernel
theorem dL_go_18 : decode cL_go 18 = .ok (.iconst 0, 1) := by decide +kernel
theorem dL_go_19 : decode cL_go 19 = .ok (.ireturn, 1) := by decide +kernel
theorem dL_move_0 : decode cL_move 0 = .ok (.aload_n 3, 1) := by decide +kernel
theorem dL_move_1 : decode cL_move 1 = .ok (.aload_n 0, 1) := by decide +kernel
theorem dL_move_2 : decode cL_move 2 = .ok (.iload_n 1, 1) := by decide +kernel
theorem dL_move_3 : decode cL_move 3 = .ok (.iload_n 2, 1) := by decide +kernel
theorem dL_move_4 : decode cL_move 4 = .ok (.invokevirtual 46, 3) := by decide +kernel
theorem dL_move_7 : decode cL_move 7 = .ok (.i2l, 1) := by decide +kernel
theorem dL_move_8 : decode cL_move 8 = .ok (.putfield 13, 3) := by decide +kernel
theorem dL_move_11 : decode cL_move 11 = .ok (.goto 11, 3) := by decide +kernel
theorem dL_move_14 : decode cL_move 14 = .ok (.astore 4, 2) := by decide +kernel
theorem dL_move_16 : decode cL_move 16 = .ok (.iconst 1, 1) := by decide +kernel
theorem dL_move_17 : decode cL_move 17 = .ok (.ireturn, 1) := by decide +kernel
theorem dL_move_18 : decode cL_move 18 = .ok (.astore 4, 2) := by decide +kernel
theorem dL_move_20 : decode cL_move 20 = .ok (.iconst 2, 1) := by decide +kernel
theorem dL_move_21 : decode cL_move 21 = .ok (.ireturn, 1) := by decide +kernel
theorem dL_move_22 : decode cL_move 22 = .ok (.iconst 0, 1) := by decide +kernel
theorem dL_move_23 : decode cL_move 23 = .ok (.ireturn, 1) := by decide +kernel
theorem dL_end_0 : decode cL_end 0 = .ok (.aload_n 3, 1) := by decide +kernel
theorem dL_end_1 : decode cL_end 1 = .ok (.aload_n 0, 1) := by decide +kernel
theorem dL_end_2 : decode cL_end 2 = .ok (.iload_n 1, 1) := by decide +kernel
theorem dL_end_3 : decode cL_end 3 = .ok (.iload_n 2, 1) := by decide +kernel
theorem dL_end_4 : decode cL_end 4 = .ok (.invokevirtual 49, 3) := by decide +kernel
theorem dL_end_7 : decode cL_end 7 = .ok (.i2l, 1) := by decide +kernel
theorem dL_end_8 : decode cL_end 8 = .ok (.putfield 13, 3) := by decide +kernel
theorem dL_end_11 : decode cL_end 11 = .ok (.goto 7, 3) := by decide +kernel
theorem dL_end_14 : decode cL_end 14 = .ok (.astore 4, 2) := by decide +kernel
theorem dL_end_16 : decode cL_end 16 = .ok (.iconst 1, 1) := by decide +kernel
theorem dL_end_17 : decode cL_end 17 = .ok (.ireturn, 1) := by decide +kernel
theorem dL_end_18 : decode cL_end 18 = .ok (.iconst 0, 1) := by decide +kernel
theorem dL_end_19 : decode cL_end 19 = .ok (.ireturn, 1) := by decide +kernel
theorem dL_stretch_0 : decode cL_stretch 0 = .ok (.aload_n 3, 1) := by decide +kernel
theorem dL_stretch_1 : decode cL_stretch 1 = .ok (.aload_n 0, 1) := by decide +kernel
theorem dL_stretch_2 : decode cL_stretch 2 = .ok (.iload_n 1, 1) := by decide +kernel
theorem dL_stretch_3 : decode cL_stretch 3 = .ok (.iload_n 2, 1) := by decide +kernel
theorem dL_stretch_4 : decode cL_stretch 4 = .ok (.invokevirtual 52, 3) := by decide +kernel
theorem dL_stretch_7 : decode cL_stretch 7 = .ok (.i2l, 1) := by decide +kernel
theorem dL_stretch_8 : decode cL_stretch 8 = .ok (.putfield 13, 3) := by decide +kernel
theorem dL_stretch_11 : decode cL_stretch 11 = .ok (.goto 11, 3) := by decide +kernel
theorem dL_stretch_14 : decode cL_stretch 14 = .ok (.astore 4, 2) := by decide +kernel
theorem dL_stretch_16 : decode cL_stretch 16 = .ok (.iconst 1, 1) := by decide +kernel
theorem dL_stretch_17 : decode cL_stretch 17 = .ok (.ireturn, 1) := by decide +kernel
theorem dL_stretch_18 : decode cL_stretch 18 = .ok (.astore 4, 2) := by decide +kernel
theorem dL_stretch_20 : decode cL_stretch 20 = .ok (.iconst 2, 1) := by decide +kernel
theorem dL_stretch_21 : decode cL_stretch 21 = .ok (.ireturn, 1) := by decide +kernel
theorem dL_stretch_22 : decode cL_stretch 22 = .ok (.iconst 0, 1) := by decide +kernel
theorem dL_stretch_23 : decode cL_stretch 23 = .ok (.ireturn, 1) := by decide +kernel
theorem dL_mark_0 : decode cL_mark 0 = .ok (.aload_n 2, 1) := by decide +kernel
theorem dL_mark_1 : decode cL_mark 1 = .ok (.aload_n 0, 1) := by decide +kernel
theorem dL_mark_2 : decode cL_mark 2 = .ok (.iload_n 1, 1) := by decide +kernel
theorem dL_mark_3 : decode cL_mark 3 = .ok (.invokevirtual 55, 3) := by decide +kernel
theorem dL_mark_6 : decode cL_mark 6 = .ok (.i2l, 1) := by decide +kernel
theorem dL_mark_7 : decode cL_mark 7 = .ok (.putfield 13, 3) := by decide +kernel
theorem dL_mark_10 : decode cL_mark 10 = .ok (.goto 6, 3) := by decide +kernel
theorem dL_mark_13 : decode cL_mark 13 = .ok (.astore_n 3, 1) := by decide +kernel
theorem dL_mark_14 : decode cL_mark 14 = .ok (.iconst 1, 1) := by decide +kernel
theorem dL_mark_15 : decode cL_mark 15 = .ok (.ireturn, 1) := by decide +kernel
theorem dL_mark_16 : decode cL_mark 16 = .ok (.iconst 0, 1) := by decide +kernel
theorem dL_mark_17 : decode cL_mark 17 = .ok (.ireturn, 1) := by decide +kernel
theorem dL_back_0 : decode cL_back 0 = .ok (.aload_n 2, 1) := by decide +kernel
theorem dL_back_1 : decode cL_back 1 = .ok (.aload_n 0, 1) := by decide +kernel
theorem dL_back_2 : decode cL_back 2 = .ok (.iload_n 1, 1) := by decide +kernel
theorem dL_back_3 : decode cL_back 3 = .ok (.invokevirtual 59, 3) := by decide +kernel
theorem dL_back_6 : decode cL_back 6 = .ok (.i2l, 1) := by decide +kernel
theorem dL_back_7 : decode cL_back 7 = .ok (.putfield 13, 3) := by decide +kernel
theorem dL_back_10 : decode cL_back 10 = .ok (.goto 6, 3) := by decide +kernel
theorem dL_back_13 : decode cL_back 13 = .ok (.astore_n 3, 1) := by decide +kernel
theorem dL_back_14 : decode cL_back 14 = .ok (.iconst 1, 1) := by decide +kernel
theorem dL_back_15 : decode cL_back 15 = .ok (.ireturn, 1) := by decide +kernel
theorem dL_back_16 : decode cL_back 16 = .ok (.iconst 0, 1) := by decide +kernel
theorem dL_back_17 : decode cL_back 17 = .ok (.ireturn, 1) := by decide +kernel
theorem dL_clear_0 : decode cL_clear 0 = .ok (.aload_n 2, 1) := by decide +kernel
theorem dL_clear_1 : decode cL_clear 1 = .ok (.aload_n 0, 1) := by decide +kernel
theorem dL_clear_2 : decode cL_clear 2 = .ok (.iload_n 1, 1) := by decide +kernel
theorem dL_clear_3 : decode cL_clear 3 = .ok (.invokevirtual 62, 3) := by decide +kernel
theorem dL_clear_6 : decode cL_clear 6 = .ok (.i2l, 1) := by decide +kernel
theorem dL_clear_7 : decode cL_clear 7 = .ok (.putfield 13, 3) := by decide +kernel
theorem dL_clear_10 : decode cL_clear 10 = .ok (.goto 6, 3) := by decide +kernel
theorem dL_clear_13 : decode cL_clear 13 = .ok (.astore_n 3, 1) := by decide +kernel
theorem dL_clear_14 : decode cL_clear 14 = .ok (.iconst 1, 1) := by decide +kernel
theorem dL_clear_15 : decode cL_clear 15 = .ok (.ireturn, 1) := by decide +kernel
theorem dL_clear_16 : decode cL_clear 16 = .ok (.iconst 0, 1) := by decide +kernel
theorem dL_clear_17 : decode cL_clear 17 = .ok (.ireturn, 1) := by decide +kernel
theorem dL_flip_0 : decode cL_flip 0 = .ok (.aload_n 2, 1) := by decide +kernel
theorem dL_flip_1 : decode cL_flip 1 = .ok (.aload_n 0, 1) := by decide +kernel
theorem dL_flip_2 : decode cL_flip 2 = .ok (.iload_n 1, 1) := by decide +kernel
theorem dL_flip_3 : decode cL_flip 3 = .ok (.invokevirtual 65, 3) := by decide +kernel
theorem dL_flip_6 : decode cL_flip 6 = .ok (.i2l, 1) := by decide +kernel
theorem dL_flip_7 : decode cL_flip 7 = .ok (.putfield 13, 3) := by decide +kernel
theorem dL_flip_10 : decode cL_flip 10 = .ok (.goto 6, 3) := by decide +kernel
theorem dL_flip_13 : decode cL_flip 13 = .ok (.astore_n 3, 1) := by decide +kernel
theorem dL_flip_14 : decode cL_flip 14 = .ok (.iconst 1, 1) := by decide +kernel
theorem dL_flip_15 : decode cL_flip 15 = .ok (.ireturn, 1) := by decide +kernel
theorem dL_flip_16 : decode cL_flip 16 = .ok (.iconst 0, 1) := by decide +kernel
theorem dL_flip_17 : decode cL_flip 17 = .ok (.ireturn, 1) := by decide +kernel
theorem dL_rewind_0 : decode cL_rewind 0 = .ok (.aload_n 2, 1) := by decide +kernel
theorem dL_rewind_1 : decode cL_rewind 1 = .ok (.aload_n 0, 1) := by decide +kernel
theorem dL_rewind_2 : decode cL_rewind 2 = .ok (.iload_n 1, 1) := by decide +kernel
theorem dL_rewind_3 : decode cL_rewind 3 = .ok (.invokevirtual 68, 3) := by decide +kernel
theorem dL_rewind_6 : decode cL_rewind 6 = .ok (.i2l, 1) := by decide +kernel
theorem dL_rewind_7 : decode cL_rewind 7 = .ok (.putfield 13, 3) := by decide +kernel
theorem dL_rewind_10 : decode cL_rewind 10 = .ok (.goto 6, 3) := by decide +kernel
theorem dL_rewind_13 : decode cL_rewind 13 = .ok (.astore_n 3, 1) := by decide +kernel
theorem dL_rewind_14 : decode cL_rewind 14 = .ok (.iconst 1, 1) := by decide +kernel
theorem dL_rewind_15 : decode cL_rewind 15 = .ok (.ireturn, 1) := by decide +kernel
theorem dL_rewind_16 : decode cL_rewind 16 = .ok (.iconst 0, 1) := by decide +kernel
theorem dL_rewind_17 : decode cL_rewind 17 = .ok (.ireturn, 1) := by decide +kernel
theorem dL_put_0 : decode cL_put 0 = .ok (.aload_n 3, 1) := by decide +kernel
theorem dL_put_1 : decode cL_put 1 = .ok (.aload_n 0, 1) := by decide +kernel
theorem dL_put_2 : decode cL_put 2 = .ok (.iload_n 1, 1) := by decide +kernel
theorem dL_put_3 : decode cL_put 3 = .ok (.iload_n 2, 1) := by decide +kernel
theorem dL_put_4 : decode cL_put 4 = .ok (.invokevirtual 71, 3) := by decide +kernel
theorem dL_put_7 : decode cL_put 7 = .ok (.i2l, 1) := by decide +kernel
theorem dL_put_8 : decode cL_put 8 = .ok (.putfield 13, 3) := by decide +kernel
theorem dL_put_11 : decode cL_put 11 = .ok (.goto 11, 3) := by decide +kernel
theorem dL_put_14 : decode cL_put 14 = .ok (.astore 4, 2) := by decide +kernel
theorem dL_put_16 : decode cL_put 16 = .ok (.iconst 1, 1) := by decide +kernel
theorem dL_put_17 : decode cL_put 17 = .ok (.ireturn, 1) := by decide +kernel
theorem dL_put_18 : decode cL_put 18 = .ok (.astore 4, 2) := by decide +kernel
theorem dL_put_20 : decode cL_put 20 = .ok (.iconst 2, 1) := by decide +kernel
theorem dL_put_21 : decode cL_put 21 = .ok (.ireturn, 1) := by decide +kernel
theorem dL_put_22 : decode cL_put 22 = .ok (.iconst 0, 1) := by decide +kernel
theorem dL_put_23 : decode cL_put 23 = .ok (.ireturn, 1) := by decide +kernel
theorem dL_putAt_0 : decode cL_putAt 0 = .ok (.aload 4, 2) := by decide +kernel
theorem dL_putAt_2 : decode cL_putAt 2 = .ok (.aload_n 0, 1) := by decide +kernel
theorem dL_putAt_3 : decode cL_putAt 3 = .ok (.iload_n 1, 1) := by decide +kernel
theorem dL_putAt_4 : decode cL_putAt 4 = .ok (.iload_n 2, 1) := by decide +kernel
theorem dL_putAt_5 : decode cL_putAt 5 = .ok (.iload_n 3, 1) := by decide +kernel
theorem dL_putAt_6 : decode cL_putAt 6 = .ok (.invokevirtual 74, 3) := by decide +kernel
theorem dL_putAt_9 : decode cL_putAt 9 = .ok (.i2l, 1) := by decide +kernel
theorem dL_putAt_10 : decode cL_putAt 10 = .ok (.putfield 13, 3) := by decide +kernel
theorem dL_putAt_13 : decode cL_putAt 13 = .ok (.goto 11, 3) := by decide +kernel
theorem dL_putAt_16 : decode cL_putAt 16 = .ok (.astore 5, 2) := by decide +kernel
theorem dL_putAt_18 : decode cL_putAt 18 = .ok (.iconst 1, 1) := by decide +kernel
theorem dL_putAt_19 : decode cL_putAt 19 = .ok (.ireturn, 1) := by decide +kernel
theorem dL_putAt_20 : decode cL_putAt 20 = .ok (.astore 5, 2) := by decide +kernel
theorem dL_putAt_22 : decode cL_putAt 22 = .ok (.iconst 2, 1) := by decide +kernel
theorem dL_putAt_23 : decode cL_putAt 23 = .ok (.ireturn, 1) := by decide +kernel
theorem dL_putAt_24 : decode cL_putAt 24 = .ok (.iconst 0, 1) := by decide +kernel
theorem dL_putAt_25 : decode cL_putAt 25 = .ok (.ireturn, 1) := by decide +kernel
theorem dL_bring_0 : decode cL_bring 0 = .ok (.aload 5, 2) := by decide +kernel
theorem dL_bring_2 : decode cL_bring 2 = .ok (.aload_n 0, 1) := by decide +kernel
theorem dL_bring_3 : decode cL_bring 3 = .ok (.iload_n 1, 1) := by decide +kernel
theorem dL_bring_4 : decode cL_bring 4 = .ok (.iload_n 2, 1) := by decide +kernel
theorem dL_bring_5 : decode cL_bring 5 = .ok (.iload_n 3, 1) := by decide +kernel
theorem dL_bring_6 : decode cL_bring 6 = .ok (.iload 4, 2) := by decide +kernel
theorem dL_bring_8 : decode cL_bring 8 = .ok (.invokevirtual 77, 3) := by decide +kernel
theorem dL_bring_11 : decode cL_bring 11 = .ok (.i2l, 1) := by decide +kernel
theorem dL_bring_12 : decode cL_bring 12 = .ok (.putfield 13, 3) := by decide +kernel
theorem dL_bring_15 : decode cL_bring 15 = .ok (.goto 7, 3) := by decide +kernel
theorem dL_bring_18 : decode cL_bring 18 = .ok (.astore 6, 2) := by decide +kernel
theorem dL_bring_20 : decode cL_bring 20 = .ok (.iconst 1, 1) := by decide +kernel
theorem dL_bring_21 : decode cL_bring 21 = .ok (.ireturn, 1) := by decide +kernel
theorem dL_bring_22 : decode cL_bring 22 = .ok (.iconst 0, 1) := by decide +kernel
theorem dL_bring_23 : decode cL_bring 23 = .ok (.ireturn, 1) := by decide +kernel
theorem dL_fill_0 : decode cL_fill 0 = .ok (.aload 5, 2) := by decide +kernel
theorem dL_fill_2 : decode cL_fill 2 = .ok (.aload_n 0, 1) := by decide +kernel
theorem dL_fill_3 : decode cL_fill 3 = .ok (.iload_n 1, 1) := by decide +kernel
theorem dL_fill_4 : decode cL_fill 4 = .ok (.iload_n 2, 1) := by decide +kernel
theorem dL_fill_5 : decode cL_fill 5 = .ok (.iload_n 3, 1) := by decide +kernel
theorem dL_fill_6 : decode cL_fill 6 = .ok (.iload 4, 2) := by decide +kernel
theorem dL_fill_8 : decode cL_fill 8 = .ok (.invokevirtual 80, 3) := by decide +kernel
theorem dL_fill_11 : decode cL_fill 11 = .ok (.i2l, 1) := by decide +kernel
theorem dL_fill_12 : decode cL_fill 12 = .ok (.putfield 13, 3) := by decide +kernel
theorem dL_fill_15 : decode cL_fill 15 = .ok (.goto 11, 3) := by decide +kernel
theorem dL_fill_18 : decode cL_fill 18 = .ok (.astore 6, 2) := by decide +kernel
theorem dL_fill_20 : decode cL_fill 20 = .ok (.iconst 1, 1) := by decide +kernel
theorem dL_fill_21 : decode cL_fill 21 = .ok (.ireturn, 1) := by decide +kernel
theorem dL_fill_22 : decode cL_fill 22 = .ok (.astore 6, 2) := by decide +kernel
theorem dL_fill_24 : decode cL_fill 24 = .ok (.iconst 2, 1) := by decide +kernel
theorem dL_fill_25 : decode cL_fill 25 = .ok (.ireturn, 1) := by decide +kernel
theorem dL_fill_26 : decode cL_fill 26 = .ok (.iconst 0, 1) := by decide +kernel
theorem dL_fill_27 : decode cL_fill 27 = .ok (.ireturn, 1) := by decide +kernel
theorem dL_pack_0 : decode cL_pack 0 = .ok (.aload_n 2, 1) := by decide +kernel
theorem dL_pack_1 : decode cL_pack 1 = .ok (.aload_n 0, 1) := by decide +kernel
theorem dL_pack_2 : decode cL_pack 2 = .ok (.iload_n 1, 1) := by decide +kernel
theorem dL_pack_3 : decode cL_pack 3 = .ok (.invokevirtual 83, 3) := by decide +kernel
theorem dL_pack_6 : decode cL_pack 6 = .ok (.i2l, 1) := by decide +kernel
theorem dL_pack_7 : decode cL_pack 7 = .ok (.putfield 13, 3) := by decide +kernel
theorem dL_pack_10 : decode cL_pack 10 = .ok (.goto 6, 3) := by decide +kernel
theorem dL_pack_13 : decode cL_pack 13 = .ok (.astore_n 3, 1) := by decide +kernel
theorem dL_pack_14 : decode cL_pack 14 = .ok (.iconst 1, 1) := by decide +kernel
theorem dL_pack_15 : decode cL_pack 15 = .ok (.ireturn, 1) := by decide +kernel
theorem dL_pack_16 : decode cL_pack 16 = .ok (.iconst 0, 1) := by decide +kernel
theorem dL_pack_17 : decode cL_pack 17 = .ok (.ireturn, 1) := by decide +kernel
theorem dL_pour_0 : decode cL_pour 0 = .ok (.aload 4, 2) := by decide +kernel
theorem dL_pour_2 : decode cL_pour 2 = .ok (.aload_n 0, 1) := by decide +kernel
theorem dL_pour_3 : decode cL_pour 3 = .ok (.iload_n 1, 1) := by decide +kernel
theorem dL_pour_4 : decode cL_pour 4 = .ok (.iload_n 2, 1) := by decide +kernel
theorem dL_pour_5 : decode cL_pour 5 = .ok (.iload_n 3, 1) := by decide +kernel
theorem dL_pour_6 : decode cL_pour 6 = .ok (.invokevirtual 86, 3) := by decide +kernel
theorem dL_pour_9 : decode cL_pour 9 = .ok (.i2l, 1) := by decide +kernel
theorem dL_pour_10 : decode cL_pour 10 = .ok (.putfield 13, 3) := by decide +kernel
theorem dL_pour_13 : decode cL_pour 13 = .ok (.goto 11, 3) := by decide +kernel
theorem dL_pour_16 : decode cL_pour 16 = .ok (.astore 5, 2) := by decide +kernel
theorem dL_pour_18 : decode cL_pour 18 = .ok (.iconst 1, 1) := by decide +kernel
theorem dL_pour_19 : decode cL_pour 19 = .ok (.ireturn, 1) := by decide +kernel
theorem dL_pour_20 : decode cL_pour 20 = .ok (.astore 5, 2) := by decide +kernel
theorem dL_pour_22 : decode cL_pour 22 = .ok (.iconst 2, 1) := by decide +kernel
theorem dL_pour_23 : decode cL_pour 23 = .ok (.ireturn, 1) := by decide +kernel
theorem dL_pour_24 : decode cL_pour 24 = .ok (.iconst 0, 1) := by decide +kernel
theorem dL_pour_25 : decode cL_pour 25 = .ok (.ireturn, 1) := by decide +kernel
theorem dL_lay_0 : decode cL_lay 0 = .ok (.aload_n 3, 1) := by decide +kernel
theorem dL_lay_1 : decode cL_lay 1 = .ok (.aload_n 0, 1) := by decide +kernel
theorem dL_lay_2 : decode cL_lay 2 = .ok (.iload_n 1, 1) := by decide +kernel
theorem dL_lay_3 : decode cL_lay 3 = .ok (.iload_n 2, 1) := by decide +kernel
theorem dL_lay_4 : decode cL_lay 4 = .ok (.invokevirtual 89, 3) := by decide +kernel
theorem dL_lay_7 : decode cL_lay 7 = .ok (.i2l, 1) := by decide +kernel
theorem dL_lay_8 : decode cL_lay 8 = .ok (.putfield 13, 3) := by decide +kernel
theorem dL_lay_11 : decode cL_lay 11 = .ok (.goto 11, 3) := by decide +kernel
theorem dL_lay_14 : decode cL_lay 14 = .ok (.astore 4, 2) := by decide +kernel
theorem dL_lay_16 : decode cL_lay 16 = .ok (.iconst 1, 1) := by decide +kernel
theorem dL_lay_17 : decode cL_lay 17 = .ok (.ireturn, 1) := by decide +kernel
theorem dL_lay_18 : decode cL_lay 18 = .ok (.astore 4, 2) := by decide +kernel
theorem dL_lay_20 : decode cL_lay 20 = .ok (.iconst 2, 1) := by decide +kernel
theorem dL_lay_21 : decode cL_lay 21 = .ok (.ireturn, 1) := by decide +kernel
theorem dL_lay_22 : decode cL_lay 22 = .ok (.iconst 0, 1) := by decide +kernel
theorem dL_lay_23 : decode cL_lay 23 = .ok (.ireturn, 1) := by decide +kernel
theorem dL_reach_0 : decode cL_reach 0 = .ok (.aload 4, 2) := by decide +kernel
theorem dL_reach_2 : decode cL_reach 2 = .ok (.aload_n 0, 1) := by decide +kernel
theorem dL_reach_3 : decode cL_reach 3 = .ok (.iload_n 1, 1) := by decide +kernel
theorem dL_reach_4 : decode cL_reach 4 = .ok (.iload_n 2, 1) := by decide +kernel
theorem dL_reach_5 : decode cL_reach 5 = .ok (.iload_n 3, 1) := by decide +kernel
theorem dL_reach_6 : decode cL_reach 6 = .ok (.invokevirtual 92, 3) := by decide +kernel
theorem dL_reach_9 : decode cL_reach 9 = .ok (.i2l, 1) := by decide +kernel
theorem dL_reach_10 : decode cL_reach 10 = .ok (.putfield 13, 3) := by decide +kernel
theorem dL_reach_13 : decode cL_reach 13 = .ok (.goto 11, 3) := by decide +kernel
theorem dL_reach_16 : decode cL_reach 16 = .ok (.astore 5, 2) := by decide +kernel
theorem dL_reach_18 : decode cL_reach 18 = .ok (.iconst 1, 1) := by decide +kernel
theorem dL_reach_19 : decode cL_reach 19 = .ok (.ireturn, 1) := by decide +kernel
theorem dL_reach_20 : decode cL_reach 20 = .ok (.astore 5, 2) := by decide +kernel
theorem dL_reach_22 : decode cL_reach 22 = .ok (.iconst 2, 1) := by decide +kernel
theorem dL_reach_23 : decode cL_reach 23 = .ok (.ireturn, 1) := by decide +kernel
theorem dL_reach_24 : decode cL_reach 24 = .ok (.iconst 0, 1) := by decide +kernel
theorem dL_reach_25 : decode cL_reach 25 = .ok (.ireturn, 1) := by decide +kernel
theorem dL_get_0 : decode cL_get 0 = .ok (.aload_n 2, 1) := by decide +kernel
theorem dL_get_1 : decode cL_get 1 = .ok (.aload_n 0, 1) := by decide +kernel
theorem dL_get_2 : decode cL_get 2 = .ok (.iload_n 1, 1) := by decide +kernel
theorem dL_get_3 : decode cL_get 3 = .ok (.invokevirtual 95, 3) := by decide +kernel
theorem dL_get_6 : decode cL_get 6 = .ok (.i2l, 1) := by decide +kernel
theorem dL_get_7 : decode cL_get 7 = .ok (.putfield 13, 3) := by decide +kernel
theorem dL_get_10 : decode cL_get 10 = .ok (.goto 6, 3) := by decide +kernel
theorem dL_get_13 : decode cL_get 13 = .ok (.astore_n 3, 1) := by decide +kernel
theorem dL_get_14 : decode cL_get 14 = .ok (.iconst 1, 1) := by decide +kernel
theorem dL_get_15 : decode cL_get 15 = .ok (.ireturn, 1) := by decide +kernel
theorem dL_get_16 : decode cL_get 16 = .ok (.iconst 0, 1) := by decide +kernel
theorem dL_get_17 : decode cL_get 17 = .ok (.ireturn, 1) := by decide +kernel
theorem dL_drain_0 : decode cL_drain 0 = .ok (.aload_n 3, 1) := by decide +kernel
theorem dL_drain_1 : decode cL_drain 1 = .ok (.aload_n 0, 1) := by decide +kernel
theorem dL_drain_2 : decode cL_drain 2 = .ok (.iload_n 1, 1) := by decide +kernel
theorem dL_drain_3 : decode cL_drain 3 = .ok (.iload_n 2, 1) := by decide +kernel
theorem dL_drain_4 : decode cL_drain 4 = .ok (.invokevirtual 98, 3) := by decide +kernel
theorem dL_drain_7 : decode cL_drain 7 = .ok (.i2l, 1) := by decide +kernel
theorem dL_drain_8 : decode cL_drain 8 = .ok (.putfield 13, 3) := by decide +kernel
theorem dL_drain_11 : decode cL_drain 11 = .ok (.goto 11, 3) := by decide +kernel
theorem dL_drain_14 : decode cL_drain 14 = .ok (.astore 4, 2) := by decide +kernel
theorem dL_drain_16 : decode cL_drain 16 = .ok (.iconst 1, 1) := by decide +kernel
theorem dL_drain_17 : decode cL_drain 17 = .ok (.ireturn, 1) := by decide +kernel
theorem dL_drain_18 : decode cL_drain 18 = .ok (.astore 4, 2) := by decide +kernel
theorem dL_drain_20 : decode cL_drain 20 = .ok (.iconst 2, 1) := by decide +kernel
theorem dL_drain_21 : decode cL_drain 21 = .ok (.ireturn, 1) := by decide +kernel
theorem dL_drain_22 : decode cL_drain 22 = .ok (.iconst 0, 1) := by decide +kernel
theorem dL_drain_23 : decode cL_drain 23 = .ok (.ireturn, 1) := by decide +kernel
theorem dL_pop_0 : decode cL_pop 0 = .ok (.aload_n 2, 1) := by decide +kernel
theorem dL_pop_1 : decode cL_pop 1 = .ok (.aload_n 0, 1) := by decide +kernel
theorem dL_pop_2 : decode cL_pop 2 = .ok (.iload_n 1, 1) := by decide +kernel
theorem dL_pop_3 : decode cL_pop 3 = .ok (.invokevirtual 101, 3) := by decide +kernel
theorem dL_pop_6 : decode cL_pop 6 = .ok (.i2l, 1) := by decide +kernel
theorem dL_pop_7 : decode cL_pop 7 = .ok (.putfield 13, 3) := by decide +kernel
theorem dL_pop_10 : decode cL_pop 10 = .ok (.goto 6, 3) := by decide +kernel
theorem dL_pop_13 : decode cL_pop 13 = .ok (.astore_n 3, 1) := by decide +kernel
theorem dL_pop_14 : decode cL_pop 14 = .ok (.iconst 1, 1) := by decide +kernel
theorem dL_pop_15 : decode cL_pop 15 = .ok (.ireturn, 1) := by decide +kernel
theorem dL_pop_16 : decode cL_pop 16 = .ok (.iconst 0, 1) := by decide +kernel
theorem dL_pop_17 : decode cL_pop 17 = .ok (.ireturn, 1) := by decide +kernel
theorem dL_ofPane_0 : decode cL_ofPane 0 = .ok (.aload_n 3, 1) := by decide +kernel
theorem dL_ofPane_1 : decode cL_ofPane 1 = .ok (.aload_n 0, 1) := by decide +kernel
theorem dL_ofPane_2 : decode cL_ofPane 2 = .ok (.iload_n 1, 1) := by decide +kernel
theorem dL_ofPane_3 : decode cL_ofPane 3 = .ok (.iload_n 2, 1) := by decide +kernel
theorem dL_ofPane_4 : decode cL_ofPane 4 = .ok (.invokevirtual 104, 3) := by decide +kernel
theorem dL_ofPane_7 : decode cL_ofPane 7 = .ok (.i2l, 1) := by decide +kernel
theorem dL_ofPane_8 : decode cL_ofPane 8 = .ok (.putfield 13, 3) := by decide +kernel
theorem dL_ofPane_11 : decode cL_ofPane 11 = .ok (.goto 11, 3) := by decide +kernel
theorem dL_ofPane_14 : decode cL_ofPane 14 = .ok (.astore 4, 2) := by decide +kernel
theorem dL_ofPane_16 : decode cL_ofPane 16 = .ok (.iconst 1, 1) := by decide +kernel
theorem dL_ofPane_17 : decode cL_ofPane 17 = .ok (.ireturn, 1) := by decide +kernel
theorem dL_ofPane_18 : decode cL_ofPane 18 = .ok (.astore 4, 2) := by decide +kernel
theorem dL_ofPane_20 : decode cL_ofPane 20 = .ok (.iconst 2, 1) := by decide +kernel
theorem dL_ofPane_21 : decode cL_ofPane 21 = .ok (.ireturn, 1) := by decide +kernel
theorem dL_ofPane_22 : decode cL_ofPane 22 = .ok (.iconst 0, 1) := by decide +kernel
theorem dL_ofPane_23 : decode cL_ofPane 23 = .ok (.ireturn, 1) := by decide +kernel
theorem dL_at_0 : decode cL_at 0 = .ok (.aload_n 3, 1) := by decide +kernel
theorem dL_at_1 : decode cL_at 1 = .ok (.aload_n 0, 1) := by decide +kernel
theorem dL_at_2 : decode cL_at 2 = .ok (.iload_n 1, 1) := by decide +kernel
theorem dL_at_3 : decode cL_at 3 = .ok (.iload_n 2, 1) := by decide +kernel
theorem dL_at_4 : decode cL_at 4 = .ok (.invokevirtual 107, 3) := by decide +kernel
theorem dL_at_7 : decode cL_at 7 = .ok (.i2l, 1) := by decide +kernel
theorem dL_at_8 : decode cL_at 8 = .ok (.putfield 13, 3) := by decide +kernel
theorem dL_at_11 : decode cL_at 11 = .ok (.goto 7, 3) := by decide +kernel
theorem dL_at_14 : decode cL_at 14 = .ok (.astore 4, 2) := by decide +kernel
theorem dL_at_16 : decode cL_at 16 = .ok (.iconst 1, 1) := by decide +kernel
theorem dL_at_17 : decode cL_at 17 = .ok (.ireturn, 1) := by decide +kernel
theorem dL_at_18 : decode cL_at 18 = .ok (.iconst 0, 1) := by decide +kernel
theorem dL_at_19 : decode cL_at 19 = .ok (.ireturn, 1) := by decide +kernel
theorem dL_peek_0 : decode cL_peek 0 = .ok (.aload_n 2, 1) := by decide +kernel
theorem dL_peek_1 : decode cL_peek 1 = .ok (.aload_n 0, 1) := by decide +kernel
theorem dL_peek_2 : decode cL_peek 2 = .ok (.iload_n 1, 1) := by decide +kernel
theorem dL_peek_3 : decode cL_peek 3 = .ok (.invokevirtual 110, 3) := by decide +kernel
theorem dL_peek_6 : decode cL_peek 6 = .ok (.i2l, 1) := by decide +kernel
theorem dL_peek_7 : decode cL_peek 7 = .ok (.putfield 13, 3) := by decide +kernel
theorem dL_peek_10 : decode cL_peek 10 = .ok (.goto 6, 3) := by decide +kernel
theorem dL_peek_13 : decode cL_peek 13 = .ok (.astore_n 3, 1) := by decide +kernel
theorem dL_peek_14 : decode cL_peek 14 = .ok (.iconst 1, 1) := by decide +kernel
theorem dL_peek_15 : decode cL_peek 15 = .ok (.ireturn, 1) := by decide +kernel
theorem dL_peek_16 : decode cL_peek 16 = .ok (.iconst 0, 1) := by decide +kernel
theorem dL_peek_17 : decode cL_peek 17 = .ok (.ireturn, 1) := by decide +kernel
theorem dL_total_0 : decode cL_total 0 = .ok (.aload_n 2, 1) := by decide +kernel
theorem dL_total_1 : decode cL_total 1 = .ok (.aload_n 0, 1) := by decide +kernel
theorem dL_total_2 : decode cL_total 2 = .ok (.iload_n 1, 1) := by decide +kernel
theorem dL_total_3 : decode cL_total 3 = .ok (.invokevirtual 113, 3) := by decide +kernel
theorem dL_total_6 : decode cL_total 6 = .ok (.putfield 117, 3) := by decide +kernel
theorem dL_total_9 : decode cL_total 9 = .ok (.goto 6, 3) := by decide +kernel
theorem dL_total_12 : decode cL_total 12 = .ok (.astore_n 3, 1) := by decide +kernel
theorem dL_total_13 : decode cL_total 13 = .ok (.iconst 1, 1) := by decide +kernel
theorem dL_total_14 : decode cL_total 14 = .ok (.ireturn, 1) := by decide +kernel
theorem dL_total_15 : decode cL_total 15 = .ok (.iconst 0, 1) := by decide +kernel
theorem dL_total_16 : decode cL_total 16 = .ok (.ireturn, 1) := by decide +kernel
theorem dL_text_0 : decode cL_text 0 = .ok (.aload_n 2, 1) := by decide +kernel
theorem dL_text_1 : decode cL_text 1 = .ok (.aload_n 0, 1) := by decide +kernel
theorem dL_text_2 : decode cL_text 2 = .ok (.iload_n 1, 1) := by decide +kernel
theorem dL_text_3 : decode cL_text 3 = .ok (.invokevirtual 121, 3) := by decide +kernel
theorem dL_text_6 : decode cL_text 6 = .ok (.putfield 117, 3) := by decide +kernel
theorem dL_text_9 : decode cL_text 9 = .ok (.goto 6, 3) := by decide +kernel
theorem dL_text_12 : decode cL_text 12 = .ok (.astore_n 3, 1) := by decide +kernel
theorem dL_text_13 : decode cL_text 13 = .ok (.iconst 1, 1) := by decide +kernel
theorem dL_text_14 : decode cL_text 14 = .ok (.ireturn, 1) := by decide +kernel
theorem dL_text_15 : decode cL_text 15 = .ok (.iconst 0, 1) := by decide +kernel
theorem dL_text_16 : decode cL_text 16 = .ok (.ireturn, 1) := by decide +kernel
theorem dL_whole_0 : decode cL_whole 0 = .ok (.aload_n 2, 1) := by decide +kernel
theorem dL_whole_1 : decode cL_whole 1 = .ok (.aload_n 0, 1) := by decide +kernel
theorem dL_whole_2 : decode cL_whole 2 = .ok (.iload_n 1, 1) := by decide +kernel
theorem dL_whole_3 : decode cL_whole 3 = .ok (.invokevirtual 124, 3) := by decide +kernel
theorem dL_whole_6 : decode cL_whole 6 = .ok (.putfield 117, 3) := by decide +kernel
theorem dL_whole_9 : decode cL_whole 9 = .ok (.goto 6, 3) := by decide +kernel
theorem dL_whole_12 : decode cL_whole 12 = .ok (.astore_n 3, 1) := by decide +kernel
theorem dL_whole_13 : decode cL_whole 13 = .ok (.iconst 1, 1) := by decide +kernel
theorem dL_whole_14 : decode cL_whole 14 = .ok (.ireturn, 1) := by decide +kernel
theorem dL_whole_15 : decode cL_whole 15 = .ok (.iconst 0, 1) := by decide +kernel
theorem dL_whole_16 : decode cL_whole 16 = .ok (.ireturn, 1) := by decide +kernel
theorem dL_isKin_0 : decode cL_isKin 0 = .ok (.aload_n 3, 1) := by decide +kernel
theorem dL_isKin_1 : decode cL_isKin 1 = .ok (.aload_n 0, 1) := by decide +kernel
theorem dL_isKin_2 : decode cL_isKin 2 = .ok (.iload_n 1, 1) := by decide +kernel
theorem dL_isKin_3 : decode cL_isKin 3 = .ok (.iload_n 2, 1) := by decide +kernel
theorem dL_isKin_4 : decode cL_isKin 4 = .ok (.invokevirtual 127, 3) := by decide +kernel
theorem dL_isKin_7 : decode cL_isKin 7 = .ok (.i2l, 1) := by decide +kernel
theorem dL_isKin_8 : decode cL_isKin 8 = .ok (.putfield 13, 3) := by decide +kernel
theorem dL_isKin_11 : decode cL_isKin 11 = .ok (.goto 7, 3) := by decide +kernel
theorem dL_isKin_14 : decode cL_isKin 14 = .ok (.astore 4, 2) := by decide +kernel
theorem dL_isKin_16 : decode cL_isKin 16 = .ok (.iconst 1, 1) := by decide +kernel
theorem dL_isKin_17 : decode cL_isKin 17 = .ok (.ireturn, 1) := by decide +kernel
theorem dL_isKin_18 : decode cL_isKin 18 = .ok (.iconst 0, 1) := by decide +kernel
theorem dL_isKin_19 : decode cL_isKin 19 = .ok (.ireturn, 1) := by decide +kernel
theorem dL_sees_0 : decode cL_sees 0 = .ok (.aload 4, 2) := by decide +kernel
theorem dL_sees_2 : decode cL_sees 2 = .ok (.aload_n 0, 1) := by decide +kernel
theorem dL_sees_3 : decode cL_sees 3 = .ok (.iload_n 1, 1) := by decide +kernel
theorem dL_sees_4 : decode cL_sees 4 = .ok (.iload_n 2, 1) := by decide +kernel
theorem dL_sees_5 : decode cL_sees 5 = .ok (.iload_n 3, 1) := by decide +kernel
theorem dL_sees_6 : decode cL_sees 6 = .ok (.invokevirtual 130, 3) := by decide +kernel
theorem dL_sees_9 : decode cL_sees 9 = .ok (.i2l, 1) := by decide +kernel
theorem dL_sees_10 : decode cL_sees 10 = .ok (.putfield 13, 3) := by decide +kernel
theorem dL_sees_13 : decode cL_sees 13 = .ok (.goto 7, 3) := by decide +kernel
theorem dL_sees_16 : decode cL_sees 16 = .ok (.astore 5, 2) := by decide +kernel
theorem dL_sees_18 : decode cL_sees 18 = .ok (.iconst 1, 1) := by decide +kernel
theorem dL_sees_19 : decode cL_sees 19 = .ok (.ireturn, 1) := by decide +kernel
theorem dL_sees_20 : decode cL_sees 20 = .ok (.iconst 0, 1) := by decide +kernel
theorem dL_sees_21 : decode cL_sees 21 = .ok (.ireturn, 1) := by decide +kernel
theorem dL_would_0 : decode cL_would 0 = .ok (.aload_n 3, 1) := by decide +kernel
theorem dL_would_1 : decode cL_would 1 = .ok (.aload_n 0, 1) := by decide +kernel
theorem dL_would_2 : decode cL_would 2 = .ok (.iload_n 1, 1) := by decide +kernel
theorem dL_would_3 : decode cL_would 3 = .ok (.iload_n 2, 1) := by decide +kernel
theorem dL_would_4 : decode cL_would 4 = .ok (.invokevirtual 133, 3) := by decide +kernel
theorem dL_would_7 : decode cL_would 7 = .ok (.i2l, 1) := by decide +kernel
theorem dL_would_8 : decode cL_would 8 = .ok (.putfield 13, 3) := by decide +kernel
theorem dL_would_11 : decode cL_would 11 = .ok (.goto 11, 3) := by decide +kernel
theorem dL_would_14 : decode cL_would 14 = .ok (.astore 4, 2) := by decide +kernel
theorem dL_would_16 : decode cL_would 16 = .ok (.iconst 1, 1) := by decide +kernel
theorem dL_would_17 : decode cL_would 17 = .ok (.ireturn, 1) := by decide +kernel
theorem dL_would_18 : decode cL_would 18 = .ok (.astore 4, 2) := by decide +kernel
theorem dL_would_20 : decode cL_would 20 = .ok (.iconst 2, 1) := by decide +kernel
theorem dL_would_21 : decode cL_would 21 = .ok (.ireturn, 1) := by decide +kernel
theorem dL_would_22 : decode cL_would 22 = .ok (.iconst 0, 1) := by decide +kernel
theorem dL_would_23 : decode cL_would 23 = .ok (.ireturn, 1) := by decide +kernel
theorem dL_house_0 : decode cL_house 0 = .ok (.aload_n 2, 1) := by decide +kernel
theorem dL_house_1 : decode cL_house 1 = .ok (.aload_n 0, 1) := by decide +kernel
theorem dL_house_2 : decode cL_house 2 = .ok (.iload_n 1, 1) := by decide +kernel
theorem dL_house_3 : decode cL_house 3 = .ok (.invokevirtual 136, 3) := by decide +kernel
theorem dL_house_6 : decode cL_house 6 = .ok (.i2l, 1) := by decide +kernel
theorem dL_house_7 : decode cL_house 7 = .ok (.putfield 13, 3) := by decide +kernel
theorem dL_house_10 : decode cL_house 10 = .ok (.goto 6, 3) := by decide +kernel
theorem dL_house_13 : decode cL_house 13 = .ok (.astore_n 3, 1) := by decide +kernel
theorem dL_house_14 : decode cL_house 14 = .ok (.iconst 1, 1) := by decide +kernel
theorem dL_house_15 : decode cL_house 15 = .ok (.ireturn, 1) := by decide +kernel
theorem dL_house_16 : decode cL_house 16 = .ok (.iconst 0, 1) := by decide +kernel
theorem dL_house_17 : decode cL_house 17 = .ok (.ireturn, 1) := by decide +kernel
set_option maxRecDepth 20000 in
theorem w_wrap (l : Launch) (h_st : l.stackTraces = false) {G : zG} {u : sS} {x pa sp ln rf sb ou t : Nat} {C9 B : zM} {on : Int64} {os : Option Nat} (hC : s_CI G x pa sp ln rf sb u C9) (hd : z_dj C9 B) (ho : B ou = some (cOu on os)) (hok : s_ok t u) (pane a2 a3 : Int32) : z_Hi l G qL_wrap [(0, 13, 16, 19), (0, 13, 20, 21)] (z_rm 13 8 48) [.ref x, .int pane, .int a2, .int a3, .ref ou] (z_un C9 B) (w_P G x pa sp ln rf sb ou B (z_lt (z_is pane 0 5) (t_and (z_is a2 0 16) (z_is a3 0 (16 - a2)))) u (s_wrap u pane.toNatClampNeg a2 a3)) := by
  obtain ⟨P, RA, VA, hC⟩ := hC
  refine z_Hi_of _ rfl rfl (Nat.le_of_ble_eq_true rfl) (fun X hl hG C T ret => ?_)
  subst hl; subst hG
  have C : z_C X cL_wrap RL 6 (z_rm 13 8 48) := C
  show z_W X (z_un C9 B) 0 0 0 [(0, .ref x), (1, .int pane), (2, .int a2), (3, .int a3), (4, .ref ou)] []
  refine z_aload C dL_wrap_0 4 rfl ?_
  refine z_aload_n C dL_wrap_2 rfl 0 rfl ?_
  refine z_iload_n C dL_wrap_3 rfl 1 rfl ?_
  refine z_iload_n C dL_wrap_4 rfl 2 rfl ?_
  refine z_iload_n C dL_wrap_5 rfl 3 rfl ?_
  refine z_callXVi (rest := [.ref ou]) (k' := 8) (n' := 48) C (z_Xi_fr hd (a_X3_wrap (z_l X) h_st hC hok pane a2 a3)) (cs_L_7 C ⟨Nat.le_of_ble_eq_true rfl, Nat.le_of_ble_eq_true rfl⟩) (z_un_l hC.1) rfl rfl rfl rfl (Nat.le_of_ble_eq_true rfl) rfl rfl (Nat.le_of_ble_eq_true rfl) (Nat.le_of_ble_eq_true rfl) dL_wrap_6 (fun E9 M9 hq => ?_) (fun x9 M9 hq => ?_)
  · obtain ⟨A9, ⟨hcx, hC9⟩, hd9, rfl⟩ := hq
    rcases hcx with ⟨hk9, rfl⟩ | ⟨hk9, rfl⟩
    · refine z_catch C T [] ⟨0, 13, 16, 19⟩ _ rfl (fun z hz => absurd hz List.not_mem_nil) rfl (by decide) kw693 (z_cI C) (fun qx => ?_)
      show z_W X (z_un A9 B) 8 48 16 [(0, .ref x), (1, .int pane), (2, .int a2), (3, .int a3), (4, .ref ou)] [.ref qx]
      refine z_astore (lv' := [(5, .ref qx), (0, .ref x), (1, .int pane), (2, .int a2), (3, .int a3), (4, .ref ou)]) C dL_wrap_16 (by decide) rfl ?_
      refine z_iconst C (v := 1) dL_wrap_18 (by decide) ?_
      refine ret dL_wrap_19 rfl ?_ (Nat.le_of_ble_eq_true rfl) (Nat.le_of_ble_eq_true rfl)
      exact w_th hC9 hd9 ho hk9 (by decide)
    · refine z_catch C T [⟨0, 13, 16, 19⟩] ⟨0, 13, 20, 21⟩ _ rfl (fun z hz => by rw [List.mem_singleton.mp hz]; exact Or.inr ⟨by decide, _, kw693, z_pasA C⟩) rfl (by decide) kw694 (z_cA C) (fun qx => ?_)
      show z_W X (z_un A9 B) 8 48 20 [(0, .ref x), (1, .int pane), (2, .int a2), (3, .int a3), (4, .ref ou)] [.ref qx]
      refine z_astore (lv' := [(5, .ref qx), (0, .ref x), (1, .int pane), (2, .int a2), (3, .int a3), (4, .ref ou)]) C dL_wrap_20 (by decide) rfl ?_
      refine z_iconst C (v := 2) dL_wrap_22 (by decide) ?_
      refine ret dL_wrap_23 rfl ?_ (Nat.le_of_ble_eq_true rfl) (Nat.le_of_ble_eq_true rfl)
      exact w_th hC9 hd9 ho hk9 (by decide)
  · obtain ⟨A9, ⟨hk9, hr9, hC9⟩, hd9, rfl⟩ := hq
    refine z_i2l C dL_wrap_9 ?_
    refine pf_L_13 C (z_un_r hd9 ho) dL_wrap_10 ?_
    refine z_goto C (tgt := 24) dL_wrap_13 (by decide) ?_
    refine z_iconst C (v := 0) dL_wrap_24 (by decide) ?_
    refine ret dL_wrap_25 rfl ?_ (Nat.le_of_ble_eq_true rfl) (Nat.le_of_ble_eq_true rfl)
    exact w_ok hC9 hd9 ho hk9 hr9
set_option maxRecDepth 20000 in
theorem w_fresh (l : Launch) (h_st : l.stackTraces = false) {G : zG} {u : sS} {x pa sp ln rf sb ou t : Nat} {C9 B : zM} {on : Int64} {os : Option Nat} (hC : s_CI G x pa sp ln rf sb u C9) (hd : z_dj C9 B) (ho : B ou = some (cOu on os)) (hok : s_ok t u) (pane a2 : Int32) : z_Hi l G qL_fresh [(0, 11, 14, 19), (0, 11, 18, 21)] (z_rm 13 8 48) [.ref x, .int pane, .int a2, .ref ou] (z_un C9 B) (w_P G x pa sp ln rf sb ou B (z_lt (z_is pane 0 5) (z_is a2 0 12)) u (s_fresh u pane.toNatClampNeg a2)) := by
  obtain ⟨P, RA, VA, hC⟩ := hC
  refine z_Hi_of _ rfl rfl (Nat.le_of_ble_eq_true rfl) (fun X hl hG C T ret => ?_)
  subst hl; subst hG
  have C : z_C X cL_fresh RL 5 (z_rm 13 8 48) := C
  show z_W X (z_un C9 B) 0 0 0 [(0, .ref x), (1, .int pane), (2, .int a2), (3, .ref ou)] []
  refine z_aload_n C dL_fresh_0 rfl 3 rfl ?_
  refine z_aload_n C dL_fresh_1 rfl 0 rfl ?_
  refine z_iload_n C dL_fresh_2 rfl 1 rfl ?_
  refine z_iload_n C dL_fresh_3 rfl 2 rfl ?_
  refine z_callXVi (rest := [.ref ou]) (k' := 8) (n' := 48) C (z_Xi_fr hd (a_X3_fresh (z_l X) h_st hC hok pane a2)) (cs_L_23 C ⟨Nat.le_of_ble_eq_true rfl, Nat.le_of_ble_eq_true rfl⟩) (z_un_l hC.1) rfl rfl rfl rfl (Nat.le_of_ble_eq_true rfl) rfl rfl (Nat.le_of_ble_eq_true rfl) (Nat.le_of_ble_eq_true rfl) dL_fresh_4 (fun E9 M9 hq => ?_) (fun x9 M9 hq => ?_)
  · obtain ⟨A9, ⟨hcx, hC9⟩, hd9, rfl⟩ := hq
    rcases hcx with ⟨hk9, rfl⟩ | ⟨hk9, rfl⟩
    · refine z_catch C T [] ⟨0, 11, 14, 19⟩ _ rfl (fun z hz => absurd hz List.not_mem_nil) rfl (by decide) kw693 (z_cI C) (fun qx => ?_)
      show z_W X (z_un A9 B) 8 48 14 [(0, .ref x), (1, .int pane), (2, .int a2), (3, .ref ou)] [.ref qx]
      refine z_astore (lv' := [(4, .ref qx), (0, .ref x), (1, .int pane), (2, .int a2), (3, .ref ou)]) C dL_fresh_14 (by decide) rfl ?_
      refine z_iconst C (v := 1) dL_fresh_16 (by decide) ?_
      refine ret dL_fresh_17 rfl ?_ (Nat.le_of_ble_eq_true rfl) (Nat.le_of_ble_eq_true rfl)
      exact w_th hC9 hd9 ho hk9 (by decide)
    · refine z_catch C T [⟨0, 11, 14, 19⟩] ⟨0, 11, 18, 21⟩ _ rfl (fun z hz => by rw [List.mem_singleton.mp hz]; exact Or.inr ⟨by decide, _, kw693, z_pasA C⟩) rfl (by decide) kw694 (z_cA C) (fun qx => ?_)
      show z_W X (z_un A9 B) 8 48 18 [(0, .ref x), (1, .int pane), (2, .int a2), (3, .ref ou)] [.ref qx]
      refine z_astore (lv' := [(4, .ref qx), (0, .ref x), (1, .int pane), (2, .int a2), (3, .ref ou)]) C dL_fresh_18 (by decide) rfl ?_
      refine z_iconst C (v := 2) dL_fresh_20 (by decide) ?_
      refine ret dL_fresh_21 rfl ?_ (Nat.le_of_ble_eq_true rfl) (Nat.le_of_ble_eq_true rfl)
      exact w_th hC9 hd9 ho hk9 (by decide)
  · obtain ⟨A9, ⟨hk9, hr9, hC9⟩, hd9, rfl⟩ := hq
    refine z_i2l C dL_fresh_7 ?_
    refine pf_L_13 C (z_un_r hd9 ho) dL_fresh_8 ?_
    refine z_goto C (tgt := 22) dL_fresh_11 (by decide) ?_
    refine z_iconst C (v := 0) dL_fresh_22 (by decide) ?_
    refine ret dL_fresh_23 rfl ?_ (Nat.le_of_ble_eq_true rfl) (Nat.le_of_ble_eq_true rfl)
    exact w_ok hC9 hd9 ho hk9 hr9
set_option maxRecDepth 20000 in
theorem w_twin (l : Launch) (h_st : l.stackTraces = false) {G : zG} {u : sS} {x pa sp ln rf sb ou t : Nat} {C9 B : zM} {on : Int64} {os : Option Nat} (hC : s_CI G x pa sp ln rf sb u C9) (hd : z_dj C9 B) (ho : B ou = some (cOu on os)) (hok : s_ok t u) (pane other : Int32) : z_Hi l G qL_twin [(0, 11, 14, 19)] (z_rm 13 8 48) [.ref x, .int pane, .int other, .ref ou] (z_un C9 B) (w_P G x pa sp ln rf sb ou B (z_lt (t_2 pane other) 1) u (s_twin u pane.toNatClampNeg other.toNatClampNeg)) := by
  obtain ⟨P, RA, VA, hC⟩ := hC
  refine z_Hi_of _ rfl rfl (Nat.le_of_ble_eq_true rfl) (fun X hl hG C T ret => ?_)
  subst hl; subst hG
  have C : z_C X cL_twin RL 5 (z_rm 13 8 48) := C
  show z_W X (z_un C9 B) 0 0 0 [(0, .ref x), (1, .int pane), (2, .int other), (3, .ref ou)] []
  refine z_aload_n C dL_twin_0 rfl 3 rfl ?_
  refine z_aload_n C dL_twin_1 rfl 0 rfl ?_
  refine z_iload_n C dL_twin_2 rfl 1 rfl ?_
  refine z_iload_n C dL_twin_3 rfl 2 rfl ?_
  refine z_callXVi (rest := [.ref ou]) (k' := 8) (n' := 48) C (z_Xi_fr hd (a_X3_twin (z_l X) h_st hC hok pane other)) (cs_L_27 C ⟨Nat.le_of_ble_eq_true rfl, Nat.le_of_ble_eq_true rfl⟩) (z_un_l hC.1) rfl rfl rfl rfl (Nat.le_of_ble_eq_true rfl) rfl rfl (Nat.le_of_ble_eq_true rfl) (Nat.le_of_ble_eq_true rfl) dL_twin_4 (fun E9 M9 hq => ?_) (fun x9 M9 hq => ?_)
  · obtain ⟨A9, ⟨hcx, hC9⟩, hd9, rfl⟩ := hq
    rcases hcx with ⟨hk9, rfl⟩ | ⟨hk9, rfl⟩
    · refine z_catch C T [] ⟨0, 11, 14, 19⟩ _ rfl (fun z hz => absurd hz List.not_mem_nil) rfl (by decide) kw693 (z_cI C) (fun qx => ?_)
      show z_W X (z_un A9 B) 8 48 14 [(0, .ref x), (1, .int pane), (2, .int other), (3, .ref ou)] [.ref qx]
      refine z_astore (lv' := [(4, .ref qx), (0, .ref x), (1, .int pane), (2, .int other), (3, .ref ou)]) C dL_twin_14 (by decide) rfl ?_
      refine z_iconst C (v := 1) dL_twin_16 (by decide) ?_
      refine ret dL_twin_17 rfl ?_ (Nat.le_of_ble_eq_true rfl) (Nat.le_of_ble_eq_true rfl)
      exact w_th hC9 hd9 ho hk9 (by decide)
    · exact absurd hk9 z_lt1
  · obtain ⟨A9, ⟨hk9, hr9, hC9⟩, hd9, rfl⟩ := hq
    refine z_i2l C dL_twin_7 ?_
    refine pf_L_13 C (z_un_r hd9 ho) dL_twin_8 ?_
    refine z_goto C (tgt := 18) dL_twin_11 (by decide) ?_
    refine z_iconst C (v := 0) dL_twin_18 (by decide) ?_
    refine ret dL_twin_19 rfl ?_ (Nat.le_of_ble_eq_true rfl) (Nat.le_of_ble_eq_true rfl)
    exact w_ok hC9 hd9 ho hk9 hr9
set_option maxRecDepth 20000 in
theorem w_rest (l : Launch) (h_st : l.stackTraces = false) {G : zG} {u : sS} {x pa sp ln rf sb ou t : Nat} {C9 B : zM} {on : Int64} {os : Option Nat} (hC : s_CI G x pa sp ln rf sb u C9) (hd : z_dj C9 B) (ho : B ou = some (cOu on os)) (hok : s_ok t u) (pane other : Int32) : z_Hi l G qL_rest [(0, 11, 14, 19)] (z_rm 13 8 48) [.ref x, .int pane, .int other, .ref ou] (z_un C9 B) (w_P G x pa sp ln rf sb ou B (z_lt (t_2 pane other) 1) u (s_rest u pane.toNatClampNeg other.toNatClampNeg)) := by
  obtain ⟨P, RA, VA, hC⟩ := hC
  refine z_Hi_of _ rfl rfl (Nat.le_of_ble_eq_true rfl) (fun X hl hG C T ret => ?_)
  subst hl; subst hG
  have C : z_C X cL_rest RL 5 (z_rm 13 8 48) := C
  show z_W X (z_un C9 B) 0 0 0 [(0, .ref x), (1, .int pane), (2, .int other), (3, .ref ou)] []
  refine z_aload_n C dL_rest_0 rfl 3 rfl ?_
  refine z_aload_n C dL_rest_1 rfl 0 rfl ?_
  refine z_iload_n C dL_rest_2 rfl 1 rfl ?_
  refine z_iload_n C dL_rest_3 rfl 2 rfl ?_
  refine z_callXVi (rest := [.ref ou]) (k' := 8) (n' := 48) C (z_Xi_fr hd (a_X3_rest (z_l X) h_st hC hok pane other)) (cs_L_30 C ⟨Nat.le_of_ble_eq_true rfl, Nat.le_of_ble_eq_true rfl⟩) (z_un_l hC.1) rfl rfl rfl rfl (Nat.le_of_ble_eq_true rfl) rfl rfl (Nat.le_of_ble_eq_true rfl) (Nat.le_of_ble_eq_true rfl) dL_rest_4 (fun E9 M9 hq => ?_) (fun x9 M9 hq => ?_)
  · obtain ⟨A9, ⟨hcx, hC9⟩, hd9, rfl⟩ := hq
    rcases hcx with ⟨hk9, rfl⟩ | ⟨hk9, rfl⟩
    · refine z_catch C T [] ⟨0, 11, 14, 19⟩ _ rfl (fun z hz => absurd hz List.not_mem_nil) rfl (by decide) kw693 (z_cI C) (fun qx => ?_)
      show z_W X (z_un A9 B) 8 48 14 [(0, .ref x), (1, .int pane), (2, .int other), (3, .ref ou)] [.ref qx]
      refine z_astore (lv' := [(4, .ref qx), (0, .ref x), (1, .int pane), (2, .int other), (3, .ref ou)]) C dL_rest_14 (by decide) rfl ?_
      refine z_iconst C (v := 1) dL_rest_16 (by decide) ?_
      refine ret dL_rest_17 rfl ?_ (Nat.le_of_ble_eq_true rfl) (Nat.le_of_ble_eq_true rfl)
      exact w_th hC9 hd9 ho hk9 (by decide)
    · exact absurd hk9 z_lt1
  · obtain ⟨A9, ⟨hk9, hr9, hC9⟩, hd9, rfl⟩ := hq
    refine z_i2l C dL_rest_7 ?_
    refine pf_L_13 C (z_un_r hd9 ho) dL_rest_8 ?_
    refine z_goto C (tgt := 18) dL_rest_11 (by decide) ?_
    refine z_iconst C (v := 0) dL_rest_18 (by decide) ?_
    refine ret dL_rest_19 rfl ?_ (Nat.le_of_ble_eq_true rfl) (Nat.le_of_ble_eq_true rfl)
    exact w_ok hC9 hd9 ho hk9 hr9
set_option maxRecDepth 20000 in
theorem w_part (l : Launch) (h_st : l.stackTraces = false) {G : zG} {u : sS} {x pa sp ln rf sb ou t : Nat} {C9 B : zM} {on : Int64} {os : Option Nat} (hC : s_CI G x pa sp ln rf sb u C9) (hd : z_dj C9 B) (ho : B ou = some (cOu on os)) (hok : s_ok t u) (pane other a3 a4 : Int32) : z_Hi l G qL_part [(0, 15, 18, 19)] (z_rm 13 8 48) [.ref x, .int pane, .int other, .int a3, .int a4, .ref ou] (z_un C9 B) (w_P G x pa sp ln rf sb ou B (z_lt (t_2 pane other) 1) u (s_part u pane.toNatClampNeg other.toNatClampNeg a3 a4)) := by
  obtain ⟨P, RA, VA, hC⟩ := hC
  refine z_Hi_of _ rfl rfl (Nat.le_of_ble_eq_true rfl) (fun X hl hG C T ret => ?_)
  subst hl; subst hG
  have C : z_C X cL_part RL 7 (z_rm 13 8 48) := C
  show z_W X (z_un C9 B) 0 0 0 [(0, .ref x), (1, .int pane), (2, .int other), (3, .int a3), (4, .int a4), (5, .ref ou)] []
  refine z_aload C dL_part_0 5 rfl ?_
  refine z_aload_n C dL_part_2 rfl 0 rfl ?_
  refine z_iload_n C dL_part_3 rfl 1 rfl ?_
  refine z_iload_n C dL_part_4 rfl 2 rfl ?_
  refine z_iload_n C dL_part_5 rfl 3 rfl ?_
  refine z_iload C dL_part_6 4 rfl ?_
  refine z_callXVi (rest := [.ref ou]) (k' := 8) (n' := 48) C (z_Xi_fr hd (a_X3_part (z_l X) h_st hC hok pane other a3 a4)) (cs_L_33 C ⟨Nat.le_of_ble_eq_true rfl, Nat.le_of_ble_eq_true rfl⟩) (z_un_l hC.1) rfl rfl rfl rfl (Nat.le_of_ble_eq_true rfl) rfl rfl (Nat.le_of_ble_eq_true rfl) (Nat.le_of_ble_eq_true rfl) dL_part_8 (fun E9 M9 hq => ?_) (fun x9 M9 hq => ?_)
  · obtain ⟨A9, ⟨hcx, hC9⟩, hd9, rfl⟩ := hq
    rcases hcx with ⟨hk9, rfl⟩ | ⟨hk9, rfl⟩
    · refine z_catch C T [] ⟨0, 15, 18, 19⟩ _ rfl (fun z hz => absurd hz List.not_mem_nil) rfl (by decide) kw693 (z_cI C) (fun qx => ?_)
      show z_W X (z_un A9 B) 8 48 18 [(0, .ref x), (1, .int pane), (2, .int other), (3, .int a3), (4, .int a4), (5, .ref ou)] [.ref qx]
      refine z_astore (lv' := [(6, .ref qx), (0, .ref x), (1, .int pane), (2, .int other), (3, .int a3), (4, .int a4), (5, .ref ou)]) C dL_part_18 (by decide) rfl ?_
      refine z_iconst C (v := 1) dL_part_20 (by decide) ?_
      refine ret dL_part_21 rfl ?_ (Nat.le_of_ble_eq_true rfl) (Nat.le_of_ble_eq_true rfl)
      exact w_th hC9 hd9 ho hk9 (by decide)
    · exact absurd hk9 z_lt1
  · obtain ⟨A9, ⟨hk9, hr9, hC9⟩, hd9, rfl⟩ := hq
    refine z_i2l C dL_part_11 ?_
    refine pf_L_13 C (z_un_r hd9 ho) dL_part_12 ?_
    refine z_goto C (tgt := 22) dL_part_15 (by decide) ?_
    refine z_iconst C (v := 0) dL_part_22 (by decide) ?_
    refine ret dL_part_23 rfl ?_ (Nat.le_of_ble_eq_true rfl) (Nat.le_of_ble_eq_true rfl)
    exact w_ok hC9 hd9 ho hk9 hr9
set_option maxRecDepth 20000 in
theorem w_reader (l : Launch) (h_st : l.stackTraces = false) {G : zG} {u : sS} {x pa sp ln rf sb ou t : Nat} {C9 B : zM} {on : Int64} {os : Option Nat} (hC : s_CI G x pa sp ln rf sb u C9) (hd : z_dj C9 B) (ho : B ou = some (cOu on os)) (hok : s_ok t u) (pane other : Int32) : z_Hi l G qL_reader [(0, 11, 14, 19)] (z_rm 13 8 48) [.ref x, .int pane, .int other, .ref ou] (z_un C9 B) (w_P G x pa sp ln rf sb ou B (z_lt (t_2 pane other) 1) u (s_reader u pane.toNatClampNeg other.toNatClampNeg)) := by
  obtain ⟨P, RA, VA, hC⟩ := hC
  refine z_Hi_of _ rfl rfl (Nat.le_of_ble_eq_true rfl) (fun X hl hG C T ret => ?_)
  subst hl; subst hG
  have C : z_C X cL_reader RL 5 (z_rm 13 8 48) := C
  show z_W X (z_un C9 B) 0 0 0 [(0, .ref x), (1, .int pane), (2, .int other), (3, .ref ou)] []
  refine z_aload_n C dL_reader_0 rfl 3 rfl ?_
  refine z_aload_n C dL_reader_1 rfl 0 rfl ?_
  refine z_iload_n C dL_reader_2 rfl 1 rfl ?_
  refine z_iload_n C dL_reader_3 rfl 2 rfl ?_
  refine z_callXVi (rest := [.ref ou]) (k' := 8) (n' := 48) C (z_Xi_fr hd (a_X3_reader (z_l X) h_st hC hok pane other)) (cs_L_37 C ⟨Nat.le_of_ble_eq_true rfl, Nat.le_of_ble_eq_true rfl⟩) (z_un_l hC.1) rfl rfl rfl rfl (Nat.le_of_ble_eq_true rfl) rfl rfl (Nat.le_of_ble_eq_true rfl) (Nat.le_of_ble_eq_true rfl) dL_reader_4 (fun E9 M9 hq => ?_) (fun x9 M9 hq => ?_)
  · obtain ⟨A9, ⟨hcx, hC9⟩, hd9, rfl⟩ := hq
    rcases hcx with ⟨hk9, rfl⟩ | ⟨hk9, rfl⟩
    · refine z_catch C T [] ⟨0, 11, 14, 19⟩ _ rfl (fun z hz => absurd hz List.not_mem_nil) rfl (by decide) kw693 (z_cI C) (fun qx => ?_)
      show z_W X (z_un A9 B) 8 48 14 [(0, .ref x), (1, .int pane), (2, .int other), (3, .ref ou)] [.ref qx]
      refine z_astore (lv' := [(4, .ref qx), (0, .ref x), (1, .int pane), (2, .int other), (3, .ref ou)]) C dL_reader_14 (by decide) rfl ?_
      refine z_iconst C (v := 1) dL_reader_16 (by decide) ?_
      refine ret dL_reader_17 rfl ?_ (Nat.le_of_ble_eq_true rfl) (Nat.le_of_ble_eq_true rfl)
      exact w_th hC9 hd9 ho hk9 (by decide)
    · exact absurd hk9 z_lt1
  · obtain ⟨A9, ⟨hk9, hr9, hC9⟩, hd9, rfl⟩ := hq
    refine z_i2l C dL_reader_7 ?_
    refine pf_L_13 C (z_un_r hd9 ho) dL_reader_8 ?_
    refine z_goto C (tgt := 18) dL_reader_11 (by decide) ?_
    refine z_iconst C (v := 0) dL_reader_18 (by decide) ?_
    refine ret dL_reader_19 rfl ?_ (Nat.le_of_ble_eq_true rfl) (Nat.le_of_ble_eq_true rfl)
    exact w_ok hC9 hd9 ho hk9 hr9
set_option maxRecDepth 20000 in
theorem w_exchange (l : Launch) (h_st : l.stackTraces = false) {G : zG} {u : sS} {x pa sp ln rf sb ou t : Nat} {C9 B : zM} {on : Int64} {os : Option Nat} (hC : s_CI G x pa sp ln rf sb u C9) (hd : z_dj C9 B) (ho : B ou = some (cOu on os)) (hok : s_ok t u) (pane other : Int32) : z_Hi l G qL_exchange [(0, 11, 14, 19)] (z_rm 13 8 48) [.ref x, .int pane, .int other, .ref ou] (z_un C9 B) (w_P G x pa sp ln rf sb ou B (z_lt (t_2 pane other) 1) u (s_exch u pane.toNatClampNeg other.toNatClampNeg)) := by
  obtain ⟨P, RA, VA, hC⟩ := hC
  refine z_Hi_of _ rfl rfl (Nat.le_of_ble_eq_true rfl) (fun X hl hG C T ret => ?_)
  subst hl; subst hG
  have C : z_C X cL_exchange RL 5 (z_rm 13 8 48) := C
  show z_W X (z_un C9 B) 0 0 0 [(0, .ref x), (1, .int pane), (2, .int other), (3, .ref ou)] []
  refine z_aload_n C dL_exchange_0 rfl 3 rfl ?_
  refine z_aload_n C dL_exchange_1 rfl 0 rfl ?_
  refine z_iload_n C dL_exchange_2 rfl 1 rfl ?_
  refine z_iload_n C dL_exchange_3 rfl 2 rfl ?_
  refine z_callXVi (rest := [.ref ou]) (k' := 8) (n' := 48) C (z_Xi_fr hd (a_X3_exchange (z_l X) h_st hC hok pane other)) (cs_L_40 C ⟨Nat.le_of_ble_eq_true rfl, Nat.le_of_ble_eq_true rfl⟩) (z_un_l hC.1) rfl rfl rfl rfl (Nat.le_of_ble_eq_true rfl) rfl rfl (Nat.le_of_ble_eq_true rfl) (Nat.le_of_ble_eq_true rfl) dL_exchange_4 (fun E9 M9 hq => ?_) (fun x9 M9 hq => ?_)
  · obtain ⟨A9, ⟨hcx, hC9⟩, hd9, rfl⟩ := hq
    rcases hcx with ⟨hk9, rfl⟩ | ⟨hk9, rfl⟩
    · refine z_catch C T [] ⟨0, 11, 14, 19⟩ _ rfl (fun z hz => absurd hz List.not_mem_nil) rfl (by decide) kw693 (z_cI C) (fun qx => ?_)
      show z_W X (z_un A9 B) 8 48 14 [(0, .ref x), (1, .int pane), (2, .int other), (3, .ref ou)] [.ref qx]
      refine z_astore (lv' := [(4, .ref qx), (0, .ref x), (1, .int pane), (2, .int other), (3, .ref ou)]) C dL_exchange_14 (by decide) rfl ?_
      refine z_iconst C (v := 1) dL_exchange_16 (by decide) ?_
      refine ret dL_exchange_17 rfl ?_ (Nat.le_of_ble_eq_true rfl) (Nat.le_of_ble_eq_true rfl)
      exact w_th hC9 hd9 ho hk9 (by decide)
    · exact absurd hk9 z_lt1
  · obtain ⟨A9, ⟨hk9, hr9, hC9⟩, hd9, rfl⟩ := hq
    refine z_i2l C dL_exchange_7 ?_
    refine pf_L_13 C (z_un_r hd9 ho) dL_exchange_8 ?_
    refine z_goto C (tgt := 18) dL_exchange_11 (by decide) ?_
    refine z_iconst C (v := 0) dL_exchange_18 (by decide) ?_
    refine ret dL_exchange_19 rfl ?_ (Nat.le_of_ble_eq_true rfl) (Nat.le_of_ble_eq_true rfl)
    exact w_ok hC9 hd9 ho hk9 hr9
set_option maxRecDepth 20000 in
theorem w_go (l : Launch) (h_st : l.stackTraces = false) {G : zG} {u : sS} {x pa sp ln rf sb ou t : Nat} {C9 B : zM} {on : Int64} {os : Option Nat} (hC : s_CI G x pa sp ln rf sb u C9) (hd : z_dj C9 B) (ho : B ou = some (cOu on os)) (hok : s_ok t u) (pane a2 : Int32) : z_Hi l G qL_go [(0, 11, 14, 19)] (z_rm 13 8 48) [.ref x, .int pane, .int a2, .ref ou] (z_un C9 B) (w_P G x pa sp ln rf sb ou B (z_lt (z_is pane 0 5) 1) u (s_go u pane.toNatClampNeg a2)) := by
  obtain ⟨P, RA, VA, hC⟩ := hC
  refine z_Hi_of _ rfl rfl (Nat.le_of_ble_eq_true rfl) (fun X hl hG C T ret => ?_)
  subst hl; subst hG
  have C : z_C X cL_go RL 5 (z_rm 13 8 48) := C
  show z_W X (z_un C9 B) 0 0 0 [(0, .ref x), (1, .int pane), (2, .int a2), (3, .ref ou)] []
  refine z_aload_n C dL_go_0 rfl 3 rfl ?_
  refine z_aload_n C dL_go_1 rfl 0 rfl ?_
  refine z_iload_n C dL_go_2 rfl 1 rfl ?_
  refine z_iload_n C dL_go_3 rfl 2 rfl ?_
  refine z_callXVi (rest := [.ref ou]) (k' := 8) (n' := 48) C (z_Xi_fr hd (a_X3_go (z_l X) h_st hC hok pane a2)) (cs_L_43 C ⟨Nat.le_of_ble_eq_true rfl, Nat.le_of_ble_eq_true rfl⟩) (z_un_l hC.1) rfl rfl rfl rfl (Nat.le_of_ble_eq_true rfl) rfl rfl (Nat.le_of_ble_eq_true rfl) (Nat.le_of_ble_eq_true rfl) dL_go_4 (fun E9 M9 hq => ?_) (fun x9 M9 hq => ?_)
  · obtain ⟨A9, ⟨hcx, hC9⟩, hd9, rfl⟩ := hq
    rcases hcx with ⟨hk9, rfl⟩ | ⟨hk9, rfl⟩
    · refine z_catch C T [] ⟨0, 11, 14, 19⟩ _ rfl (fun z hz => absurd hz List.not_mem_nil) rfl (by decide) kw693 (z_cI C) (fun qx => ?_)
      show z_W X (z_un A9 B) 8 48 14 [(0, .ref x), (1, .int pane), (2, .int a2), (3, .ref ou)] [.ref qx]
      refine z_astore (lv' := [(4, .ref qx), (0, .ref x), (1, .int pane), (2, .int a2), (3, .ref ou)]) C dL_go_14 (by decide) rfl ?_
      refine z_iconst C (v := 1) dL_go_16 (by decide) ?_
      refine ret dL_go_17 rfl ?_ (Nat.le_of_ble_eq_true rfl) (Nat.le_of_ble_eq_true rfl)
      exact w_th hC9 hd9 ho hk9 (by decide)
    · exact absurd hk9 z_lt1
  · obtain ⟨A9, ⟨hk9, hr9, hC9⟩, hd9, rfl⟩ := hq
    refine z_i2l C dL_go_7 ?_
    refine pf_L_13 C (z_un_r hd9 ho) dL_go_8 ?_
    refine z_goto C (tgt := 18) dL_go_11 (by decide) ?_
    refine z_iconst C (v := 0) dL_go_18 (by decide) ?_
    refine ret dL_go_19 rfl ?_ (Nat.le_of_ble_eq_true rfl) (Nat.le_of_ble_eq_true rfl)
    exact w_ok hC9 hd9 ho hk9 hr9
set_option maxRecDepth 20000 in
theorem w_move (l : Launch) (h_st : l.stackTraces = false) {G : zG} {u : sS} {x pa sp ln rf sb ou t : Nat} {C9 B : zM} {on : Int64} {os : Option Nat} (hC : s_CI G x pa sp ln rf sb u C9) (hd : z_dj C9 B) (ho : B ou = some (cOu on os)) (hok : s_ok t u) (pane a2 : Int32) : z_Hi l G qL_move [(0, 11, 14, 19), (0, 11, 18, 21)] (z_rm 13 8 48) [.ref x, .int pane, .int a2, .ref ou] (z_un C9 B) (w_P G x pa sp ln rf sb ou B (z_lt (z_is pane 0 5) (z_is a2 (-20) 20)) u (s_move u pane.toNatClampNeg a2)) := by
  obtain ⟨P, RA, VA, hC⟩ := hC
  refine z_Hi_of _ rfl rfl (Nat.le_of_ble_eq_true rfl) (fun X hl hG C T ret => ?_)
  subst hl; subst hG
  have C : z_C X cL_move RL 5 (z_rm 13 8 48) := C
  show z_W X (z_un C9 B) 0 0 0 [(0, .ref x), (1, .int pane), (2, .int a2), (3, .ref ou)] []
  refine z_aload_n C dL_move_0 rfl 3 rfl ?_
  refine z_aload_n C dL_move_1 rfl 0 rfl ?_
  refine z_iload_n C dL_move_2 rfl 1 rfl ?_
  refine z_iload_n C dL_move_3 rfl 2 rfl ?_
  refine z_callXVi (rest := [.ref ou]) (k' := 8) (n' := 48) C (z_Xi_fr hd (a_X3_move (z_l X) h_st hC hok pane a2)) (cs_L_46 C ⟨Nat.le_of_ble_eq_true rfl, Nat.le_of_ble_eq_true rfl⟩) (z_un_l hC.1) rfl rfl rfl rfl (Nat.le_of_ble_eq_true rfl) rfl rfl (Nat.le_of_ble_eq_true rfl) (Nat.le_of_ble_eq_true rfl) dL_move_4 (fun E9 M9 hq => ?_) (fun x9 M9 hq => ?_)
  · obtain ⟨A9, ⟨hcx, hC9⟩, hd9, rfl⟩ := hq
    rcases hcx with ⟨hk9, rfl⟩ | ⟨hk9, rfl⟩
    · refine z_catch C T [] ⟨0, 11, 14, 19⟩ _ rfl (fun z hz => absurd hz List.not_mem_nil) rfl (by decide) kw693 (z_cI C) (fun qx => ?_)
      show z_W X (z_un A9 B) 8 48 14 [(0, .ref x), (1, .int pane), (2, .int a2), (3, .ref ou)] [.ref qx]
      refine z_astore (lv' := [(4, .ref qx), (0, .ref x), (1, .int pane), (2, .int a2), (3, .ref ou)]) C dL_move_14 (by decide) rfl ?_
      refine z_iconst C (v := 1) dL_move_16 (by decide) ?_
      refine ret dL_move_17 rfl ?_ (Nat.le_of_ble_eq_true rfl) (Nat.le_of_ble_eq_true rfl)
      exact w_th hC9 hd9 ho hk9 (by decide)
    · refine z_catch C T [⟨0, 11, 14, 19⟩] ⟨0, 11, 18, 21⟩ _ rfl (fun z hz => by rw [List.mem_singleton.mp hz]; exact Or.inr ⟨by decide, _, kw693, z_pasA C⟩) rfl (by decide) kw694 (z_cA C) (fun qx => ?_)
      show z_W X (z_un A9 B) 8 48 18 [(0, .ref x), (1, .int pane), (2, .int a2), (3, .ref ou)] [.ref qx]
      refine z_astore (lv' := [(4, .ref qx), (0, .ref x), (1, .int pane), (2, .int a2), (3, .ref ou)]) C dL_move_18 (by decide) rfl ?_
      refine z_iconst C (v := 2) dL_move_20 (by decide) ?_
      refine ret dL_move_21 rfl ?_ (Nat.le_of_ble_eq_true rfl) (Nat.le_of_ble_eq_true rfl)
      exact w_th hC9 hd9 ho hk9 (by decide)
  · obtain ⟨A9, ⟨hk9, hr9, hC9⟩, hd9, rfl⟩ := hq
    refine z_i2l C dL_move_7 ?_
    refine pf_L_13 C (z_un_r hd9 ho) dL_move_8 ?_
    refine z_goto C (tgt := 22) dL_move_11 (by decide) ?_
    refine z_iconst C (v := 0) dL_move_22 (by decide) ?_
    refine ret dL_move_23 rfl ?_ (Nat.le_of_ble_eq_true rfl) (Nat.le_of_ble_eq_true rfl)
    exact w_ok hC9 hd9 ho hk9 hr9
set_option maxRecDepth 20000 in
theorem w_end (l : Launch) (h_st : l.stackTraces = false) {G : zG} {u : sS} {x pa sp ln rf sb ou t : Nat} {C9 B : zM} {on : Int64} {os : Option Nat} (hC : s_CI G x pa sp ln rf sb u C9) (hd : z_dj C9 B) (ho : B ou = some (cOu on os)) (hok : s_ok t u) (pane a2 : Int32) : z_Hi l G qL_end [(0, 11, 14, 19)] (z_rm 13 8 48) [.ref x, .int pane, .int a2, .ref ou] (z_un C9 B) (w_P G x pa sp ln rf sb ou B (z_lt (z_is pane 0 5) 1) u (s_end u pane.toNatClampNeg a2)) := by
  obtain ⟨P, RA, VA, hC⟩ := hC
  refine z_Hi_of _ rfl rfl (Nat.le_of_ble_eq_true rfl) (fun X hl hG C T ret => ?_)
  subst hl; subst hG
  have C : z_C X cL_end RL 5 (z_rm 13 8 48) := C
  show z_W X (z_un C9 B) 0 0 0 [(0, .ref x), (1, .int pane), (2, .int a2), (3, .ref ou)] []
  refine z_aload_n C dL_end_0 rfl 3 rfl ?_
  refine z_aload_n C dL_end_1 rfl 0 rfl ?_
  refine z_iload_n C dL_end_2 rfl 1 rfl ?_
  refine z_iload_n C dL_end_3 rfl 2 rfl ?_
  refine z_callXVi (rest := [.ref ou]) (k' := 8) (n' := 48) C (z_Xi_fr hd (a_X3_end (z_l X) h_st hC hok pane a2)) (cs_L_49 C ⟨Nat.le_of_ble_eq_true rfl, Nat.le_of_ble_eq_true rfl⟩) (z_un_l hC.1) rfl rfl rfl rfl (Nat.le_of_ble_eq_true rfl) rfl rfl (Nat.le_of_ble_eq_true rfl) (Nat.le_of_ble_eq_true rfl) dL_end_4 (fun E9 M9 hq => ?_) (fun x9 M9 hq => ?_)
  · obtain ⟨A9, ⟨hcx, hC9⟩, hd9, rfl⟩ := hq
    rcases hcx with ⟨hk9, rfl⟩ | ⟨hk9, rfl⟩
    · refine z_catch C T [] ⟨0, 11, 14, 19⟩ _ rfl (fun z hz => absurd hz List.not_mem_nil) rfl (by decide) kw693 (z_cI C) (fun qx => ?_)
      show z_W X (z_un A9 B) 8 48 14 [(0, .ref x), (1, .int pane), (2, .int a2), (3, .ref ou)] [.ref qx]
      refine z_astore (lv' := [(4, .ref qx), (0, .ref x), (1, .int pane), (2, .int a2), (3, .ref ou)]) C dL_end_14 (by decide) rfl ?_
      refine z_iconst C (v := 1) dL_end_16 (by decide) ?_
      refine ret dL_end_17 rfl ?_ (Nat.le_of_ble_eq_true rfl) (Nat.le_of_ble_eq_true rfl)
      exact w_th hC9 hd9 ho hk9 (by decide)
    · exact absurd hk9 z_lt1
  · obtain ⟨A9, ⟨hk9, hr9, hC9⟩, hd9, rfl⟩ := hq
    refine z_i2l C dL_end_7 ?_
    refine pf_L_13 C (z_un_r hd9 ho) dL_end_8 ?_
    refine z_goto C (tgt := 18) dL_end_11 (by decide) ?_
    refine z_iconst C (v := 0) dL_end_18 (by decide) ?_
    refine ret dL_end_19 rfl ?_ (Nat.le_of_ble_eq_true rfl) (Nat.le_of_ble_eq_true rfl)
    exact w_ok hC9 hd9 ho hk9 hr9
set_option maxRecDepth 20000 in
theorem w_stretch (l : Launch) (h_st : l.stackTraces = false) {G : zG} {u : sS} {x pa sp ln rf sb ou t : Nat} {C9 B : zM} {on : Int64} {os : Option Nat} (hC : s_CI G x pa sp ln rf sb u C9) (hd : z_dj C9 B) (ho : B ou = some (cOu on os)) (hok : s_ok t u) (pane a2 : Int32) : z_Hi l G qL_stretch [(0, 11, 14, 19), (0, 11, 18, 21)] (z_rm 13 8 48) [.ref x, .int pane, .int a2, .ref ou] (z_un C9 B) (w_P G x pa sp ln rf sb ou B (z_lt (z_is pane 0 5) (z_is a2 (-20) 20)) u (s_stretch u pane.toNatClampNeg a2)) := by
  obtain ⟨P, RA, VA, hC⟩ := hC
  refine z_Hi_of _ rfl rfl (Nat.le_of_ble_eq_true rfl) (fun X hl hG C T ret => ?_)
  subst hl; subst hG
  have C : z_C X cL_stretch RL 5 (z_rm 13 8 48) := C
  show z_W X (z_un C9 B) 0 0 0 [(0, .ref x), (1, .int pane), (2, .int a2), (3, .ref ou)] []
  refine z_aload_n C dL_stretch_0 rfl 3 rfl ?_
  refine z_aload_n C dL_stretch_1 rfl 0 rfl ?_
  refine z_iload_n C dL_stretch_2 rfl 1 rfl ?_
  refine z_iload_n C dL_stretch_3 rfl 2 rfl ?_
  refine z_callXVi (rest := [.ref ou]) (k' := 8) (n' := 48) C (z_Xi_fr hd (a_X3_stretch (z_l X) h_st hC hok pane a2)) (cs_L_52 C ⟨Nat.le_of_ble_eq_true rfl, Nat.le_of_ble_eq_true rfl⟩) (z_un_l hC.1) rfl rfl rfl rfl (Nat.le_of_ble_eq_true rfl) rfl rfl (Nat.le_of_ble_eq_true rfl) (Nat.le_of_ble_eq_true rfl) dL_stretch_4 (fun E9 M9 hq => ?_) (fun x9 M9 hq => ?_)
  · obtain ⟨A9, ⟨hcx, hC9⟩, hd9, rfl⟩ := hq
    rcases hcx with ⟨hk9, rfl⟩ | ⟨hk9, rfl⟩
    · refine z_catch C T [] ⟨0, 11, 14, 19⟩ _ rfl (fun z hz => absurd hz List.not_mem_nil) rfl (by decide) kw693 (z_cI C) (fun qx => ?_)
      show z_W X (z_un A9 B) 8 48 14 [(0, .ref x), (1, .int pane), (2, .int a2), (3, .ref ou)] [.ref qx]
      refine z_astore (lv' := [(4, .ref qx), (0, .ref x), (1, .int pane), (2, .int a2), (3, .ref ou)]) C dL_stretch_14 (by decide) rfl ?_
      refine z_iconst C (v := 1) dL_stretch_16 (by decide) ?_
      refine ret dL_stretch_17 rfl ?_ (Nat.le_of_ble_eq_true rfl) (Nat.le_of_ble_eq_true rfl)
      exact w_th hC9 hd9 ho hk9 (by decide)
    · refine z_catch C T [⟨0, 11, 14, 19⟩] ⟨0, 11, 18, 21⟩ _ rfl (fun z hz => by rw [List.mem_singleton.mp hz]; exact Or.inr ⟨by decide, _, kw693, z_pasA C⟩) rfl (by decide) kw694 (z_cA C) (fun qx => ?_)
      show z_W X (z_un A9 B) 8 48 18 [(0, .ref x), (1, .int pane), (2, .int a2), (3, .ref ou)] [.ref qx]
      refine z_astore (lv' := [(4, .ref qx), (0, .ref x), (1, .int pane), (2, .int a2), (3, .ref ou)]) C dL_stretch_18 (by decide) rfl ?_
      refine z_iconst C (v := 2) dL_stretch_20 (by decide) ?_
      refine ret dL_stretch_21 rfl ?_ (Nat.le_of_ble_eq_true rfl) (Nat.le_of_ble_eq_true rfl)
      exact w_th hC9 hd9 ho hk9 (by decide)
  · obtain ⟨A9, ⟨hk9, hr9, hC9⟩, hd9, rfl⟩ := hq
    refine z_i2l C dL_stretch_7 ?_
    refine pf_L_13 C (z_un_r hd9 ho) dL_stretch_8 ?_
    refine z_goto C (tgt := 22) dL_stretch_11 (by decide) ?_
    refine z_iconst C (v := 0) dL_stretch_22 (by decide) ?_
    refine ret dL_stretch_23 rfl ?_ (Nat.le_of_ble_eq_true rfl) (Nat.le_of_ble_eq_true rfl)
    exact w_ok hC9 hd9 ho hk9 hr9
set_option maxRecDepth 20000 in
theorem w_mark (l : Launch) (h_st : l.stackTraces = false) {G : zG} {u : sS} {x pa sp ln rf sb ou t : Nat} {C9 B : zM} {on : Int64} {os : Option Nat} (hC : s_CI G x pa sp ln rf sb u C9) (hd : z_dj C9 B) (ho : B ou = some (cOu on os)) (hok : s_ok t u) (pane : Int32) : z_Hi l G qL_mark [(0, 10, 13, 19)] (z_rm 13 8 48) [.ref x, .int pane, .ref ou] (z_un C9 B) (w_P G x pa sp ln rf sb ou B (z_lt (z_is pane 0 5) 1) u (s_mark u pane.toNatClampNeg)) := by
  obtain ⟨P, RA, VA, hC⟩ := hC
  refine z_Hi_of _ rfl rfl (Nat.le_of_ble_eq_true rfl) (fun X hl hG C T ret => ?_)
  subst hl; subst hG
  have C : z_C X cL_mark RL 4 (z_rm 13 8 48) := C
  show z_W X (z_un C9 B) 0 0 0 [(0, .ref x), (1, .int pane), (2, .ref ou)] []
  refine z_aload_n C dL_mark_0 rfl 2 rfl ?_
  refine z_aload_n C dL_mark_1 rfl 0 rfl ?_
  refine z_iload_n C dL_mark_2 rfl 1 rfl ?_
  refine z_callXVi (rest := [.ref ou]) (k' := 8) (n' := 48) C (z_Xi_fr hd (a_X3_mark (z_l X) h_st hC hok pane)) (cs_L_55 C ⟨Nat.le_of_ble_eq_true rfl, Nat.le_of_ble_eq_true rfl⟩) (z_un_l hC.1) rfl rfl rfl rfl (Nat.le_of_ble_eq_true rfl) rfl rfl (Nat.le_of_ble_eq_true rfl) (Nat.le_of_ble_eq_true rfl) dL_mark_3 (fun E9 M9 hq => ?_) (fun x9 M9 hq => ?_)
  · obtain ⟨A9, ⟨hcx, hC9⟩, hd9, rfl⟩ := hq
    rcases hcx with ⟨hk9, rfl⟩ | ⟨hk9, rfl⟩
    · refine z_catch C T [] ⟨0, 10, 13, 19⟩ _ rfl (fun z hz => absurd hz List.not_mem_nil) rfl (by decide) kw693 (z_cI C) (fun qx => ?_)
      show z_W X (z_un A9 B) 8 48 13 [(0, .ref x), (1, .int pane), (2, .ref ou)] [.ref qx]
      refine z_astore_n (lv' := [(3, .ref qx), (0, .ref x), (1, .int pane), (2, .ref ou)]) C dL_mark_13 rfl (by decide) rfl ?_
      refine z_iconst C (v := 1) dL_mark_14 (by decide) ?_
      refine ret dL_mark_15 rfl ?_ (Nat.le_of_ble_eq_true rfl) (Nat.le_of_ble_eq_true rfl)
      exact w_th hC9 hd9 ho hk9 (by decide)
    · exact absurd hk9 z_lt1
  · obtain ⟨A9, ⟨hk9, hr9, hC9⟩, hd9, rfl⟩ := hq
    refine z_i2l C dL_mark_6 ?_
    refine pf_L_13 C (z_un_r hd9 ho) dL_mark_7 ?_
    refine z_goto C (tgt := 16) dL_mark_10 (by decide) ?_
    refine z_iconst C (v := 0) dL_mark_16 (by decide) ?_
    refine ret dL_mark_17 rfl ?_ (Nat.le_of_ble_eq_true rfl) (Nat.le_of_ble_eq_true rfl)
    exact w_ok hC9 hd9 ho hk9 hr9
set_option maxRecDepth 20000 in
theorem w_back (l : Launch) (h_st : l.stackTraces = false) {G : zG} {u : sS} {x pa sp ln rf sb ou t : Nat} {C9 B : zM} {on : Int64} {os : Option Nat} (hC : s_CI G x pa sp ln rf sb u C9) (hd : z_dj C9 B) (ho : B ou = some (cOu on os)) (hok : s_ok t u) (pane : Int32) : z_Hi l G qL_back [(0, 10, 13, 19)] (z_rm 13 8 48) [.ref x, .int pane, .ref ou] (z_un C9 B) (w_P G x pa sp ln rf sb ou B (z_lt (z_is pane 0 5) 1) u (s_back u pane.toNatClampNeg)) := by
  obtain ⟨P, RA, VA, hC⟩ := hC
  refine z_Hi_of _ rfl rfl (Nat.le_of_ble_eq_true rfl) (fun X hl hG C T ret => ?_)
  subst hl; subst hG
  have C : z_C X cL_back RL 4 (z_rm 13 8 48) := C
  show z_W X (z_un C9 B) 0 0 0 [(0, .ref x), (1, .int pane), (2, .ref ou)] []
  refine z_aload_n C dL_back_0 rfl 2 rfl ?_
  refine z_aload_n C dL_back_1 rfl 0 rfl ?_
  refine z_iload_n C dL_back_2 rfl 1 rfl ?_
  refine z_callXVi (rest := [.ref ou]) (k' := 8) (n' := 48) C (z_Xi_fr hd (a_X3_back (z_l X) h_st hC hok pane)) (cs_L_59 C ⟨Nat.le_of_ble_eq_true rfl, Nat.le_of_ble_eq_true rfl⟩) (z_un_l hC.1) rfl rfl rfl rfl (Nat.le_of_ble_eq_true rfl) rfl rfl (Nat.le_of_ble_eq_true rfl) (Nat.le_of_ble_eq_true rfl) dL_back_3 (fun E9 M9 hq => ?_) (fun x9 M9 hq => ?_)
  · obtain ⟨A9, ⟨hcx, hC9⟩, hd9, rfl⟩ := hq
    rcases hcx with ⟨hk9, rfl⟩ | ⟨hk9, rfl⟩
    · refine z_catch C T [] ⟨0, 10, 13, 19⟩ _ rfl (fun z hz => absurd hz List.not_mem_nil) rfl (by decide) kw693 (z_cI C) (fun qx => ?_)
      show z_W X (z_un A9 B) 8 48 13 [(0, .ref x), (1, .int pane), (2, .ref ou)] [.ref qx]
      refine z_astore_n (lv' := [(3, .ref qx), (0, .ref x), (1, .int pane), (2, .ref ou)]) C dL_back_13 rfl (by decide) rfl ?_
      refine z_iconst C (v := 1) dL_back_14 (by decide) ?_
      refine ret dL_back_15 rfl ?_ (Nat.le_of_ble_eq_true rfl) (Nat.le_of_ble_eq_true rfl)
      exact w_th hC9 hd9 ho hk9 (by decide)
    · exact absurd hk9 z_lt1
  · obtain ⟨A9, ⟨hk9, hr9, hC9⟩, hd9, rfl⟩ := hq
    refine z_i2l C dL_back_6 ?_
    refine pf_L_13 C (z_un_r hd9 ho) dL_back_7 ?_
    refine z_goto C (tgt := 16) dL_back_10 (by decide) ?_
    refine z_iconst C (v := 0) dL_back_16 (by decide) ?_
    refine ret dL_back_17 rfl ?_ (Nat.le_of_ble_eq_true rfl) (Nat.le_of_ble_eq_true rfl)
    exact w_ok hC9 hd9 ho hk9 hr9
set_option maxRecDepth 20000 in
theorem w_clear (l : Launch) (h_st : l.stackTraces = false) {G : zG} {u : sS} {x pa sp ln rf sb ou t : Nat} {C9 B : zM} {on : Int64} {os : Option Nat} (hC : s_CI G x pa sp ln rf sb u C9) (hd : z_dj C9 B) (ho : B ou = some (cOu on os)) (hok : s_ok t u) (pane : Int32) : z_Hi l G qL_clear [(0, 10, 13, 19)] (z_rm 13 8 48) [.ref x, .int pane, .ref ou] (z_un C9 B) (w_P G x pa sp ln rf sb ou B (z_lt (z_is pane 0 5) 1) u (s_clear u pane.toNatClampNeg)) := by
  obtain ⟨P, RA, VA, hC⟩ := hC
  refine z_Hi_of _ rfl rfl (Nat.le_of_ble_eq_true rfl) (fun X hl hG C T ret => ?_)
  subst hl; subst hG
  have C : z_C X cL_clear RL 4 (z_rm 13 8 48) := C
  show z_W X (z_un C9 B) 0 0 0 [(0, .ref x), (1, .int pane), (2, .ref ou)] []
  refine z_aload_n C dL_clear_0 rfl 2 rfl ?_
  refine z_aload_n C dL_clear_1 rfl 0 rfl ?_
  refine z_iload_n C dL_clear_2 rfl 1 rfl ?_
  refine z_callXVi (rest := [.ref ou]) (k' := 8) (n' := 48) C (z_Xi_fr hd (a_X3_clear (z_l X) h_st hC hok pane)) (cs_L_62 C ⟨Nat.le_of_ble_eq_true rfl, Nat.le_of_ble_eq_true rfl⟩) (z_un_l hC.1) rfl rfl rfl rfl (Nat.le_of_ble_eq_true rfl) rfl rfl (Nat.le_of_ble_eq_true rfl) (Nat.le_of_ble_eq_true rfl) dL_clear_3 (fun E9 M9 hq => ?_) (fun x9 M9 hq => ?_)
  · obtain ⟨A9, ⟨hcx, hC9⟩, hd9, rfl⟩ := hq
    rcases hcx with ⟨hk9, rfl⟩ | ⟨hk9, rfl⟩
    · refine z_catch C T [] ⟨0, 10, 13, 19⟩ _ rfl (fun z hz => absurd hz List.not_mem_nil) rfl (by decide) kw693 (z_cI C) (fun qx => ?_)
      show z_W X (z_un A9 B) 8 48 13 [(0, .ref x), (1, .int pane), (2, .ref ou)] [.ref qx]
      refine z_astore_n (lv' := [(3, .ref qx), (0, .ref x), (1, .int pane), (2, .ref ou)]) C dL_clear_13 rfl (by decide) rfl ?_
      refine z_iconst C (v := 1) dL_clear_14 (by decide) ?_
      refine ret dL_clear_15 rfl ?_ (Nat.le_of_ble_eq_true rfl) (Nat.le_of_ble_eq_true rfl)
      exact w_th hC9 hd9 ho hk9 (by decide)
    · exact absurd hk9 z_lt1
  · obtain ⟨A9, ⟨hk9, hr9, hC9⟩, hd9, rfl⟩ := hq
    refine z_i2l C dL_clear_6 ?_
    refine pf_L_13 C (z_un_r hd9 ho) dL_clear_7 ?_
    refine z_goto C (tgt := 16) dL_clear_10 (by decide) ?_
    refine z_iconst C (v := 0) dL_clear_16 (by decide) ?_
    refine ret dL_clear_17 rfl ?_ (Nat.le_of_ble_eq_true rfl) (Nat.le_of_ble_eq_true rfl)
    exact w_ok hC9 hd9 ho hk9 hr9
set_option maxRecDepth 20000 in
theorem w_flip (l : Launch) (h_st : l.stackTraces = false) {G : zG} {u : sS} {x pa sp ln rf sb ou t : Nat} {C9 B : zM} {on : Int64} {os : Option Nat} (hC : s_CI G x pa sp ln rf sb u C9) (hd : z_dj C9 B) (ho : B ou = some (cOu on os)) (hok : s_ok t u) (pane : Int32) : z_Hi l G qL_flip [(0, 10, 13, 19)] (z_rm 13 8 48) [.ref x, .int pane, .ref ou] (z_un C9 B) (w_P G x pa sp ln rf sb ou B (z_lt (z_is pane 0 5) 1) u (s_flip u pane.toNatClampNeg)) := by
  obtain ⟨P, RA, VA, hC⟩ := hC
  refine z_Hi_of _ rfl rfl (Nat.le_of_ble_eq_true rfl) (fun X hl hG C T ret => ?_)
  subst hl; subst hG
  have C : z_C X cL_flip RL 4 (z_rm 13 8 48) := C
  show z_W X (z_un C9 B) 0 0 0 [(0, .ref x), (1, .int pane), (2, .ref ou)] []
  refine z_aload_n C dL_flip_0 rfl 2 rfl ?_
  refine z_aload_n C dL_flip_1 rfl 0 rfl ?_
  refine z_iload_n C dL_flip_2 rfl 1 rfl ?_
  refine z_callXVi (rest := [.ref ou]) (k' := 8) (n' := 48) C (z_Xi_fr hd (a_X3_flip (z_l X) h_st hC hok pane)) (cs_L_65 C ⟨Nat.le_of_ble_eq_true rfl, Nat.le_of_ble_eq_true rfl⟩) (z_un_l hC.1) rfl rfl rfl rfl (Nat.le_of_ble_eq_true rfl) rfl rfl (Nat.le_of_ble_eq_true rfl) (Nat.le_of_ble_eq_true rfl) dL_flip_3 (fun E9 M9 hq => ?_) (fun x9 M9 hq => ?_)
  · obtain ⟨A9, ⟨hcx, hC9⟩, hd9, rfl⟩ := hq
    rcases hcx with ⟨hk9, rfl⟩ | ⟨hk9, rfl⟩
    · refine z_catch C T [] ⟨0, 10, 13, 19⟩ _ rfl (fun z hz => absurd hz List.not_mem_nil) rfl (by decide) kw693 (z_cI C) (fun qx => ?_)
      show z_W X (z_un A9 B) 8 48 13 [(0, .ref x), (1, .int pane), (2, .ref ou)] [.ref qx]
      refine z_astore_n (lv' := [(3, .ref qx), (0, .ref x), (1, .int pane), (2, .ref ou)]) C dL_flip_13 rfl (by decide) rfl ?_
      refine z_iconst C (v := 1) dL_flip_14 (by decide) ?_
      refine ret dL_flip_15 rfl ?_ (Nat.le_of_ble_eq_true rfl) (Nat.le_of_ble_eq_true rfl)
      exact w_th hC9 hd9 ho hk9 (by decide)
    · exact absurd hk9 z_lt1
  · obtain ⟨A9, ⟨hk9, hr9, hC9⟩, hd9, rfl⟩ := hq
    refine z_i2l C dL_flip_6 ?_
    refine pf_L_13 C (z_un_r hd9 ho) dL_flip_7 ?_
    refine z_goto C (tgt := 16) dL_flip_10 (by decide) ?_
    refine z_iconst C (v := 0) dL_flip_16 (by decide) ?_
    refine ret dL_flip_17 rfl ?_ (Nat.le_of_ble_eq_true rfl) (Nat.le_of_ble_eq_true rfl)
    exact w_ok hC9 hd9 ho hk9 hr9
set_option maxRecDepth 20000 in
theorem w_rewind (l : Launch) (h_st : l.stackTraces = false) {G : zG} {u : sS} {x pa sp ln rf sb ou t : Nat} {C9 B : zM} {on : Int64} {os : Option Nat} (hC : s_CI G x pa sp ln rf sb u C9) (hd : z_dj C9 B) (ho : B ou = some (cOu on os)) (hok : s_ok t u) (pane : Int32) : z_Hi l G qL_rewind [(0, 10, 13, 19)] (z_rm 13 8 48) [.ref x, .int pane, .ref ou] (z_un C9 B) (w_P G x pa sp ln rf sb ou B (z_lt (z_is pane 0 5) 1) u (s_rewind u pane.toNatClampNeg)) := by
  obtain ⟨P, RA, VA, hC⟩ := hC
  refine z_Hi_of _ rfl rfl (Nat.le_of_ble_eq_true rfl) (fun X hl hG C T ret => ?_)
  subst hl; subst hG
  have C : z_C X cL_rewind RL 4 (z_rm 13 8 48) := C
  show z_W X (z_un C9 B) 0 0 0 [(0, .ref x), (1, .int pane), (2, .ref ou)] []
  refine z_aload_n C dL_rewind_0 rfl 2 rfl ?_
  refine z_aload_n C dL_rewind_1 rfl 0 rfl ?_
  refine z_iload_n C dL_rewind_2 rfl 1 rfl ?_
  refine z_callXVi (rest := [.ref ou]) (k' := 8) (n' := 48) C (z_Xi_fr hd (a_X3_rewind (z_l X) h_st hC hok pane)) (cs_L_68 C ⟨Nat.le_of_ble_eq_true rfl, Nat.le_of_ble_eq_true rfl⟩) (z_un_l hC.1) rfl rfl rfl rfl (Nat.le_of_ble_eq_true rfl) rfl rfl (Nat.le_of_ble_eq_true rfl) (Nat.le_of_ble_eq_true rfl) dL_rewind_3 (fun E9 M9 hq => ?_) (fun x9 M9 hq => ?_)
  · obtain ⟨A9, ⟨hcx, hC9⟩, hd9, rfl⟩ := hq
    rcases hcx with ⟨hk9, rfl⟩ | ⟨hk9, rfl⟩
    · refine z_catch C T [] ⟨0, 10, 13, 19⟩ _ rfl (fun z hz => absurd hz List.not_mem_nil) rfl (by decide) kw693 (z_cI C) (fun qx => ?_)
      show z_W X (z_un A9 B) 8 48 13 [(0, .ref x), (1, .int pane), (2, .ref ou)] [.ref qx]
      refine z_astore_n (lv' := [(3, .ref qx), (0, .ref x), (1, .int pane), (2, .ref ou)]) C dL_rewind_13 rfl (by decide) rfl ?_
      refine z_iconst C (v := 1) dL_rewind_14 (by decide) ?_
      refine ret dL_rewind_15 rfl ?_ (Nat.le_of_ble_eq_true rfl) (Nat.le_of_ble_eq_true rfl)
      exact w_th hC9 hd9 ho hk9 (by decide)
    · exact absurd hk9 z_lt1
  · obtain ⟨A9, ⟨hk9, hr9, hC9⟩, hd9, rfl⟩ := hq
    refine z_i2l C dL_rewind_6 ?_
    refine pf_L_13 C (z_un_r hd9 ho) dL_rewind_7 ?_
    refine z_goto C (tgt := 16) dL_rewind_10 (by decide) ?_
    refine z_iconst C (v := 0) dL_rewind_16 (by decide) ?_
    refine ret dL_rewind_17 rfl ?_ (Nat.le_of_ble_eq_true rfl) (Nat.le_of_ble_eq_true rfl)
    exact w_ok hC9 hd9 ho hk9 hr9
set_option maxRecDepth 20000 in
theorem w_put (l : Launch) (h_st : l.stackTraces = false) {G : zG} {u : sS} {x pa sp ln rf sb ou t : Nat} {C9 B : zM} {on : Int64} {os : Option Nat} (hC : s_CI G x pa sp ln rf sb u C9) (hd : z_dj C9 B) (ho : B ou = some (cOu on os)) (hok : s_ok t u) (pane a2 : Int32) : z_Hi l G qL_put [(0, 11, 14, 19), (0, 11, 18, 21)] (z_rm 13 8 48) [.ref x, .int pane, .int a2, .ref ou] (z_un C9 B) (w_P G x pa sp ln rf sb ou B (z_lt (z_is pane 0 5) (t_nn a2)) u (s_put u pane.toNatClampNeg a2)) := by
  obtain ⟨P, RA, VA, hC⟩ := hC
  refine z_Hi_of _ rfl rfl (Nat.le_of_ble_eq_true rfl) (fun X hl hG C T ret => ?_)
  subst hl; subst hG
  have C : z_C X cL_put RL 5 (z_rm 13 8 48) := C
  show z_W X (z_un C9 B) 0 0 0 [(0, .ref x), (1, .int pane), (2, .int a2), (3, .ref ou)] []
  refine z_aload_n C dL_put_0 rfl 3 rfl ?_
  refine z_aload_n C dL_put_1 rfl 0 rfl ?_
  refine z_iload_n C dL_put_2 rfl 1 rfl ?_
  refine z_iload_n C dL_put_3 rfl 2 rfl ?_
  refine z_callXVi (rest := [.ref ou]) (k' := 8) (n' := 48) C (z_Xi_fr hd (a_X3_put (z_l X) h_st hC hok pane a2)) (cs_L_71 C ⟨Nat.le_of_ble_eq_true rfl, Nat.le_of_ble_eq_true rfl⟩) (z_un_l hC.1) rfl rfl rfl rfl (Nat.le_of_ble_eq_true rfl) rfl rfl (Nat.le_of_ble_eq_true rfl) (Nat.le_of_ble_eq_true rfl) dL_put_4 (fun E9 M9 hq => ?_) (fun x9 M9 hq => ?_)
  · obtain ⟨A9, ⟨hcx, hC9⟩, hd9, rfl⟩ := hq
    rcases hcx with ⟨hk9, rfl⟩ | ⟨hk9, rfl⟩
    · refine z_catch C T [] ⟨0, 11, 14, 19⟩ _ rfl (fun z hz => absurd hz List.not_mem_nil) rfl (by decide) kw693 (z_cI C) (fun qx => ?_)
      show z_W X (z_un A9 B) 8 48 14 [(0, .ref x), (1, .int pane), (2, .int a2), (3, .ref ou)] [.ref qx]
      refine z_astore (lv' := [(4, .ref qx), (0, .ref x), (1, .int pane), (2, .int a2), (3, .ref ou)]) C dL_put_14 (by decide) rfl ?_
      refine z_iconst C (v := 1) dL_put_16 (by decide) ?_
      refine ret dL_put_17 rfl ?_ (Nat.le_of_ble_eq_true rfl) (Nat.le_of_ble_eq_true rfl)
      exact w_th hC9 hd9 ho hk9 (by decide)
    · refine z_catch C T [⟨0, 11, 14, 19⟩] ⟨0, 11, 18, 21⟩ _ rfl (fun z hz => by rw [List.mem_singleton.mp hz]; exact Or.inr ⟨by decide, _, kw693, z_pasA C⟩) rfl (by decide) kw694 (z_cA C) (fun qx => ?_)
      show z_W X (z_un A9 B) 8 48 18 [(0, .ref x), (1, .int pane), (2, .int a2), (3, .ref ou)] [.ref qx]
      refine z_astore (lv' := [(4, .ref qx), (0, .ref x), (1, .int pane), (2, .int a2), (3, .ref ou)]) C dL_put_18 (by decide) rfl ?_
      refine z_iconst C (v := 2) dL_put_20 (by decide) ?_
      refine ret dL_put_21 rfl ?_ (Nat.le_of_ble_eq_true rfl) (Nat.le_of_ble_eq_true rfl)
      exact w_th hC9 hd9 ho hk9 (by decide)
  · obtain ⟨A9, ⟨hk9, hr9, hC9⟩, hd9, rfl⟩ := hq
    refine z_i2l C dL_put_7 ?_
    refine pf_L_13 C (z_un_r hd9 ho) dL_put_8 ?_
    refine z_goto C (tgt := 22) dL_put_11 (by decide) ?_
    refine z_iconst C (v := 0) dL_put_22 (by decide) ?_
    refine ret dL_put_23 rfl ?_ (Nat.le_of_ble_eq_true rfl) (Nat.le_of_ble_eq_true rfl)
    exact w_ok hC9 hd9 ho hk9 hr9
set_option maxRecDepth 20000 in
theorem w_putAt (l : Launch) (h_st : l.stackTraces = false) {G : zG} {u : sS} {x pa sp ln rf sb ou t : Nat} {C9 B : zM} {on : Int64} {os : Option Nat} (hC : s_CI G x pa sp ln rf sb u C9) (hd : z_dj C9 B) (ho : B ou = some (cOu on os)) (hok : s_ok t u) (pane a2 a3 : Int32) : z_Hi l G qL_putAt [(0, 13, 16, 19), (0, 13, 20, 21)] (z_rm 13 8 48) [.ref x, .int pane, .int a2, .int a3, .ref ou] (z_un C9 B) (w_P G x pa sp ln rf sb ou B (z_lt (z_is pane 0 5) (t_nn a3)) u (s_putAt u pane.toNatClampNeg a2 a3)) := by
  obtain ⟨P, RA, VA, hC⟩ := hC
  refine z_Hi_of _ rfl rfl (Nat.le_of_ble_eq_true rfl) (fun X hl hG C T ret => ?_)
  subst hl; subst hG
  have C : z_C X cL_putAt RL 6 (z_rm 13 8 48) := C
  show z_W X (z_un C9 B) 0 0 0 [(0, .ref x), (1, .int pane), (2, .int a2), (3, .int a3), (4, .ref ou)] []
  refine z_aload C dL_putAt_0 4 rfl ?_
  refine z_aload_n C dL_putAt_2 rfl 0 rfl ?_
  refine z_iload_n C dL_putAt_3 rfl 1 rfl ?_
  refine z_iload_n C dL_putAt_4 rfl 2 rfl ?_
  refine z_iload_n C dL_putAt_5 rfl 3 rfl ?_
  refine z_callXVi (rest := [.ref ou]) (k' := 8) (n' := 48) C (z_Xi_fr hd (a_X3_putAt (z_l X) h_st hC hok pane a2 a3)) (cs_L_74 C ⟨Nat.le_of_ble_eq_true rfl, Nat.le_of_ble_eq_true rfl⟩) (z_un_l hC.1) rfl rfl rfl rfl (Nat.le_of_ble_eq_true rfl) rfl rfl (Nat.le_of_ble_eq_true rfl) (Nat.le_of_ble_eq_true rfl) dL_putAt_6 (fun E9 M9 hq => ?_) (fun x9 M9 hq => ?_)
  · obtain ⟨A9, ⟨hcx, hC9⟩, hd9, rfl⟩ := hq
    rcases hcx with ⟨hk9, rfl⟩ | ⟨hk9, rfl⟩
    · refine z_catch C T [] ⟨0, 13, 16, 19⟩ _ rfl (fun z hz => absurd hz List.not_mem_nil) rfl (by decide) kw693 (z_cI C) (fun qx => ?_)
      show z_W X (z_un A9 B) 8 48 16 [(0, .ref x), (1, .int pane), (2, .int a2), (3, .int a3), (4, .ref ou)] [.ref qx]
      refine z_astore (lv' := [(5, .ref qx), (0, .ref x), (1, .int pane), (2, .int a2), (3, .int a3), (4, .ref ou)]) C dL_putAt_16 (by decide) rfl ?_
      refine z_iconst C (v := 1) dL_putAt_18 (by decide) ?_
      refine ret dL_putAt_19 rfl ?_ (Nat.le_of_ble_eq_true rfl) (Nat.le_of_ble_eq_true rfl)
      exact w_th hC9 hd9 ho hk9 (by decide)
    · refine z_catch C T [⟨0, 13, 16, 19⟩] ⟨0, 13, 20, 21⟩ _ rfl (fun z hz => by rw [List.mem_singleton.mp hz]; exact Or.inr ⟨by decide, _, kw693, z_pasA C⟩) rfl (by decide) kw694 (z_cA C) (fun qx => ?_)
      show z_W X (z_un A9 B) 8 48 20 [(0, .ref x), (1, .int pane), (2, .int a2), (3, .int a3), (4, .ref ou)] [.ref qx]
      refine z_astore (lv' := [(5, .ref qx), (0, .ref x), (1, .int pane), (2, .int a2), (3, .int a3), (4, .ref ou)]) C dL_putAt_20 (by decide) rfl ?_
      refine z_iconst C (v := 2) dL_putAt_22 (by decide) ?_
      refine ret dL_putAt_23 rfl ?_ (Nat.le_of_ble_eq_true rfl) (Nat.le_of_ble_eq_true rfl)
      exact w_th hC9 hd9 ho hk9 (by decide)
  · obtain ⟨A9, ⟨hk9, hr9, hC9⟩, hd9, rfl⟩ := hq
    refine z_i2l C dL_putAt_9 ?_
    refine pf_L_13 C (z_un_r hd9 ho) dL_putAt_10 ?_
    refine z_goto C (tgt := 24) dL_putAt_13 (by decide) ?_
    refine z_iconst C (v := 0) dL_putAt_24 (by decide) ?_
    refine ret dL_putAt_25 rfl ?_ (Nat.le_of_ble_eq_true rfl) (Nat.le_of_ble_eq_true rfl)
    exact w_ok hC9 hd9 ho hk9 hr9
set_option maxRecDepth 20000 in
theorem w_bring (l : Launch) (h_st : l.stackTraces = false) {G : zG} {u : sS} {x pa sp ln rf sb ou t : Nat} {C9 B : zM} {on : Int64} {os : Option Nat} (hC : s_CI G x pa sp ln rf sb u C9) (hd : z_dj C9 B) (ho : B ou = some (cOu on os)) (hok : s_ok t u) (pane a2 other a4 : Int32) : z_Hi l G qL_bring [(0, 15, 18, 19)] (z_rm 13 8 48) [.ref x, .int pane, .int a2, .int other, .int a4, .ref ou] (z_un C9 B) (w_P G x pa sp ln rf sb ou B (z_lt (t_2 pane other) 1) u (s_bring u pane.toNatClampNeg other.toNatClampNeg a2 a4)) := by
  obtain ⟨P, RA, VA, hC⟩ := hC
  refine z_Hi_of _ rfl rfl (Nat.le_of_ble_eq_true rfl) (fun X hl hG C T ret => ?_)
  subst hl; subst hG
  have C : z_C X cL_bring RL 7 (z_rm 13 8 48) := C
  show z_W X (z_un C9 B) 0 0 0 [(0, .ref x), (1, .int pane), (2, .int a2), (3, .int other), (4, .int a4), (5, .ref ou)] []
  refine z_aload C dL_bring_0 5 rfl ?_
  refine z_aload_n C dL_bring_2 rfl 0 rfl ?_
  refine z_iload_n C dL_bring_3 rfl 1 rfl ?_
  refine z_iload_n C dL_bring_4 rfl 2 rfl ?_
  refine z_iload_n C dL_bring_5 rfl 3 rfl ?_
  refine z_iload C dL_bring_6 4 rfl ?_
  refine z_callXVi (rest := [.ref ou]) (k' := 8) (n' := 48) C (z_Xi_fr hd (a_X3_bring (z_l X) h_st hC hok pane a2 other a4)) (cs_L_77 C ⟨Nat.le_of_ble_eq_true rfl, Nat.le_of_ble_eq_true rfl⟩) (z_un_l hC.1) rfl rfl rfl rfl (Nat.le_of_ble_eq_true rfl) rfl rfl (Nat.le_of_ble_eq_true rfl) (Nat.le_of_ble_eq_true rfl) dL_bring_8 (fun E9 M9 hq => ?_) (fun x9 M9 hq => ?_)
  · obtain ⟨A9, ⟨hcx, hC9⟩, hd9, rfl⟩ := hq
    rcases hcx with ⟨hk9, rfl⟩ | ⟨hk9, rfl⟩
    · refine z_catch C T [] ⟨0, 15, 18, 19⟩ _ rfl (fun z hz => absurd hz List.not_mem_nil) rfl (by decide) kw693 (z_cI C) (fun qx => ?_)
      show z_W X (z_un A9 B) 8 48 18 [(0, .ref x), (1, .int pane), (2, .int a2), (3, .int other), (4, .int a4), (5, .ref ou)] [.ref qx]
      refine z_astore (lv' := [(6, .ref qx), (0, .ref x), (1, .int pane), (2, .int a2), (3, .int other), (4, .int a4), (5, .ref ou)]) C dL_bring_18 (by decide) rfl ?_
      refine z_iconst C (v := 1) dL_bring_20 (by decide) ?_
      refine ret dL_bring_21 rfl ?_ (Nat.le_of_ble_eq_true rfl) (Nat.le_of_ble_eq_true rfl)
      exact w_th hC9 hd9 ho hk9 (by decide)
    · exact absurd hk9 z_lt1
  · obtain ⟨A9, ⟨hk9, hr9, hC9⟩, hd9, rfl⟩ := hq
    refine z_i2l C dL_bring_11 ?_
    refine pf_L_13 C (z_un_r hd9 ho) dL_bring_12 ?_
    refine z_goto C (tgt := 22) dL_bring_15 (by decide) ?_
    refine z_iconst C (v := 0) dL_bring_22 (by decide) ?_
    refine ret dL_bring_23 rfl ?_ (Nat.le_of_ble_eq_true rfl) (Nat.le_of_ble_eq_true rfl)
    exact w_ok hC9 hd9 ho hk9 hr9
set_option maxRecDepth 20000 in
theorem w_fill (l : Launch) (h_st : l.stackTraces = false) {G : zG} {u : sS} {x pa sp ln rf sb ou t : Nat} {C9 B : zM} {on : Int64} {os : Option Nat} (hC : s_CI G x pa sp ln rf sb u C9) (hd : z_dj C9 B) (ho : B ou = some (cOu on os)) (hok : s_ok t u) (pane a2 a3 a4 : Int32) : z_Hi l G qL_fill [(0, 15, 18, 19), (0, 15, 22, 21)] (z_rm 13 8 48) [.ref x, .int pane, .int a2, .int a3, .int a4, .ref ou] (z_un C9 B) (w_P G x pa sp ln rf sb ou B (z_lt (z_is pane 0 5) (t_and (z_is a2 0 1000000) (t_and (z_is a3 0 1000000) (z_is a4 0 20)))) u (s_fill u pane.toNatClampNeg a2 a3 a4)) := by
  obtain ⟨P, RA, VA, hC⟩ := hC
  refine z_Hi_of _ rfl rfl (Nat.le_of_ble_eq_true rfl) (fun X hl hG C T ret => ?_)
  subst hl; subst hG
  have C : z_C X cL_fill RL 7 (z_rm 13 8 48) := C
  show z_W X (z_un C9 B) 0 0 0 [(0, .ref x), (1, .int pane), (2, .int a2), (3, .int a3), (4, .int a4), (5, .ref ou)] []
  refine z_aload C dL_fill_0 5 rfl ?_
  refine z_aload_n C dL_fill_2 rfl 0 rfl ?_
  refine z_iload_n C dL_fill_3 rfl 1 rfl ?_
  refine z_iload_n C dL_fill_4 rfl 2 rfl ?_
  refine z_iload_n C dL_fill_5 rfl 3 rfl ?_
  refine z_iload C dL_fill_6 4 rfl ?_
  refine z_callXVi (rest := [.ref ou]) (k' := 8) (n' := 48) C (z_Xi_fr hd (a_X3_fill (z_l X) h_st hC hok pane a2 a3 a4)) (cs_L_80 C ⟨Nat.le_of_ble_eq_true rfl, Nat.le_of_ble_eq_true rfl⟩) (z_un_l hC.1) rfl rfl rfl rfl (Nat.le_of_ble_eq_true rfl) rfl rfl (Nat.le_of_ble_eq_true rfl) (Nat.le_of_ble_eq_true rfl) dL_fill_8 (fun E9 M9 hq => ?_) (fun x9 M9 hq => ?_)
  · obtain ⟨A9, ⟨hcx, hC9⟩, hd9, rfl⟩ := hq
    rcases hcx with ⟨hk9, rfl⟩ | ⟨hk9, rfl⟩
    · refine z_catch C T [] ⟨0, 15, 18, 19⟩ _ rfl (fun z hz => absurd hz List.not_mem_nil) rfl (by decide) kw693 (z_cI C) (fun qx => ?_)
      show z_W X (z_un A9 B) 8 48 18 [(0, .ref x), (1, .int pane), (2, .int a2), (3, .int a3), (4, .int a4), (5, .ref ou)] [.ref qx]
      refine z_astore (lv' := [(6, .ref qx), (0, .ref x), (1, .int pane), (2, .int a2), (3, .int a3), (4, .int a4), (5, .ref ou)]) C dL_fill_18 (by decide) rfl ?_
      refine z_iconst C (v := 1) dL_fill_20 (by decide) ?_
      refine ret dL_fill_21 rfl ?_ (Nat.le_of_ble_eq_true rfl) (Nat.le_of_ble_eq_true rfl)
      exact w_th hC9 hd9 ho hk9 (by decide)
    · refine z_catch C T [⟨0, 15, 18, 19⟩] ⟨0, 15, 22, 21⟩ _ rfl (fun z hz => by rw [List.mem_singleton.mp hz]; exact Or.inr ⟨by decide, _, kw693, z_pasA C⟩) rfl (by decide) kw694 (z_cA C) (fun qx => ?_)
      show z_W X (z_un A9 B) 8 48 22 [(0, .ref x), (1, .int pane), (2, .int a2), (3, .int a3), (4, .int a4), (5, .ref ou)] [.ref qx]
      refine z_astore (lv' := [(6, .ref qx), (0, .ref x), (1, .int pane), (2, .int a2), (3, .int a3), (4, .int a4), (5, .ref ou)]) C dL_fill_22 (by decide) rfl ?_
      refine z_iconst C (v := 2) dL_fill_24 (by decide) ?_
      refine ret dL_fill_25 rfl ?_ (Nat.le_of_ble_eq_true rfl) (Nat.le_of_ble_eq_true rfl)
      exact w_th hC9 hd9 ho hk9 (by decide)
  · obtain ⟨A9, ⟨hk9, hr9, hC9⟩, hd9, rfl⟩ := hq
    refine z_i2l C dL_fill_11 ?_
    refine pf_L_13 C (z_un_r hd9 ho) dL_fill_12 ?_
    refine z_goto C (tgt := 26) dL_fill_15 (by decide) ?_
    refine z_iconst C (v := 0) dL_fill_26 (by decide) ?_
    refine ret dL_fill_27 rfl ?_ (Nat.le_of_ble_eq_true rfl) (Nat.le_of_ble_eq_true rfl)
    exact w_ok hC9 hd9 ho hk9 hr9
set_option maxRecDepth 20000 in
theorem w_pack (l : Launch) (h_st : l.stackTraces = false) {G : zG} {u : sS} {x pa sp ln rf sb ou t : Nat} {C9 B : zM} {on : Int64} {os : Option Nat} (hC : s_CI G x pa sp ln rf sb u C9) (hd : z_dj C9 B) (ho : B ou = some (cOu on os)) (hok : s_ok t u) (pane : Int32) : z_Hi l G qL_pack [(0, 10, 13, 19)] (z_rm 13 8 48) [.ref x, .int pane, .ref ou] (z_un C9 B) (w_P G x pa sp ln rf sb ou B (z_lt (z_is pane 0 5) 1) u (s_pack u pane.toNatClampNeg)) := by
  obtain ⟨P, RA, VA, hC⟩ := hC
  refine z_Hi_of _ rfl rfl (Nat.le_of_ble_eq_true rfl) (fun X hl hG C T ret => ?_)
  subst hl; subst hG
  have C : z_C X cL_pack RL 4 (z_rm 13 8 48) := C
  show z_W X (z_un C9 B) 0 0 0 [(0, .ref x), (1, .int pane), (2, .ref ou)] []
  refine z_aload_n C dL_pack_0 rfl 2 rfl ?_
  refine z_aload_n C dL_pack_1 rfl 0 rfl ?_
  refine z_iload_n C dL_pack_2 rfl 1 rfl ?_
  refine z_callXVi (rest := [.ref ou]) (k' := 8) (n' := 48) C (z_Xi_fr hd (a_X3_pack (z_l X) h_st hC hok pane)) (cs_L_83 C ⟨Nat.le_of_ble_eq_true rfl, Nat.le_of_ble_eq_true rfl⟩) (z_un_l hC.1) rfl rfl rfl rfl (Nat.le_of_ble_eq_true rfl) rfl rfl (Nat.le_of_ble_eq_true rfl) (Nat.le_of_ble_eq_true rfl) dL_pack_3 (fun E9 M9 hq => ?_) (fun x9 M9 hq => ?_)
  · obtain ⟨A9, ⟨hcx, hC9⟩, hd9, rfl⟩ := hq
    rcases hcx with ⟨hk9, rfl⟩ | ⟨hk9, rfl⟩
    · refine z_catch C T [] ⟨0, 10, 13, 19⟩ _ rfl (fun z hz => absurd hz List.not_mem_nil) rfl (by decide) kw693 (z_cI C) (fun qx => ?_)
      show z_W X (z_un A9 B) 8 48 13 [(0, .ref x), (1, .int pane), (2, .ref ou)] [.ref qx]
      refine z_astore_n (lv' := [(3, .ref qx), (0, .ref x), (1, .int pane), (2, .ref ou)]) C dL_pack_13 rfl (by decide) rfl ?_
      refine z_iconst C (v := 1) dL_pack_14 (by decide) ?_
      refine ret dL_pack_15 rfl ?_ (Nat.le_of_ble_eq_true rfl) (Nat.le_of_ble_eq_true rfl)
      exact w_th hC9 hd9 ho hk9 (by decide)
    · exact absurd hk9 z_lt1
  · obtain ⟨A9, ⟨hk9, hr9, hC9⟩, hd9, rfl⟩ := hq
    refine z_i2l C dL_pack_6 ?_
    refine pf_L_13 C (z_un_r hd9 ho) dL_pack_7 ?_
    refine z_goto C (tgt := 16) dL_pack_10 (by decide) ?_
    refine z_iconst C (v := 0) dL_pack_16 (by decide) ?_
    refine ret dL_pack_17 rfl ?_ (Nat.le_of_ble_eq_true rfl) (Nat.le_of_ble_eq_true rfl)
    exact w_ok hC9 hd9 ho hk9 hr9
set_option maxRecDepth 20000 in
theorem w_pour (l : Launch) (h_st : l.stackTraces = false) {G : zG} {u : sS} {x pa sp ln rf sb ou t : Nat} {C9 B : zM} {on : Int64} {os : Option Nat} (hC : s_CI G x pa sp ln rf sb u C9) (hd : z_dj C9 B) (ho : B ou = some (cOu on os)) (hok : s_ok t u) (pane other a3 : Int32) : z_Hi l G qL_pour [(0, 13, 16, 19), (0, 13, 20, 21)] (z_rm 13 8 48) [.ref x, .int pane, .int other, .int a3, .ref ou] (z_un C9 B) (w_P G x pa sp ln rf sb ou B (z_lt (t_2 pane other) (z_is a3 0 20)) u (s_pour u pane.toNatClampNeg other.toNatClampNeg a3)) := by
  obtain ⟨P, RA, VA, hC⟩ := hC
  refine z_Hi_of _ rfl rfl (Nat.le_of_ble_eq_true rfl) (fun X hl hG C T ret => ?_)
  subst hl; subst hG
  have C : z_C X cL_pour RL 6 (z_rm 13 8 48) := C
  show z_W X (z_un C9 B) 0 0 0 [(0, .ref x), (1, .int pane), (2, .int other), (3, .int a3), (4, .ref ou)] []
  refine z_aload C dL_pour_0 4 rfl ?_
  refine z_aload_n C dL_pour_2 rfl 0 rfl ?_
  refine z_iload_n C dL_pour_3 rfl 1 rfl ?_
  refine z_iload_n C dL_pour_4 rfl 2 rfl ?_
  refine z_iload_n C dL_pour_5 rfl 3 rfl ?_
  refine z_callXVi (rest := [.ref ou]) (k' := 8) (n' := 48) C (z_Xi_fr hd (a_X3_pour (z_l X) h_st hC hok pane other a3)) (cs_L_86 C ⟨Nat.le_of_ble_eq_true rfl, Nat.le_of_ble_eq_true rfl⟩) (z_un_l hC.1) rfl rfl rfl rfl (Nat.le_of_ble_eq_true rfl) rfl rfl (Nat.le_of_ble_eq_true rfl) (Nat.le_of_ble_eq_true rfl) dL_pour_6 (fun E9 M9 hq => ?_) (fun x9 M9 hq => ?_)
  · obtain ⟨A9, ⟨hcx, hC9⟩, hd9, rfl⟩ := hq
    rcases hcx with ⟨hk9, rfl⟩ | ⟨hk9, rfl⟩
    · refine z_catch C T [] ⟨0, 13, 16, 19⟩ _ rfl (fun z hz => absurd hz List.not_mem_nil) rfl (by decide) kw693 (z_cI C) (fun qx => ?_)
      show z_W X (z_un A9 B) 8 48 16 [(0, .ref x), (1, .int pane), (2, .int other), (3, .int a3), (4, .ref ou)] [.ref qx]
      refine z_astore (lv' := [(5, .ref qx), (0, .ref x), (1, .int pane), (2, .int other), (3, .int a3), (4, .ref ou)]) C dL_pour_16 (by decide) rfl ?_
      refine z_iconst C (v := 1) dL_pour_18 (by decide) ?_
      refine ret dL_pour_19 rfl ?_ (Nat.le_of_ble_eq_true rfl) (Nat.le_of_ble_eq_true rfl)
      exact w_th hC9 hd9 ho hk9 (by decide)
    · refine z_catch C T [⟨0, 13, 16, 19⟩] ⟨0, 13, 20, 21⟩ _ rfl (fun z hz => by rw [List.mem_singleton.mp hz]; exact Or.inr ⟨by decide, _, kw693, z_pasA C⟩) rfl (by decide) kw694 (z_cA C) (fun qx => ?_)
      show z_W X (z_un A9 B) 8 48 20 [(0, .ref x), (1, .int pane), (2, .int other), (3, .int a3), (4, .ref ou)] [.ref qx]
      refine z_astore (lv' := [(5, .ref qx), (0, .ref x), (1, .int pane), (2, .int other), (3, .int a3), (4, .ref ou)]) C dL_pour_20 (by decide) rfl ?_
      refine z_iconst C (v := 2) dL_pour_22 (by decide) ?_
      refine ret dL_pour_23 rfl ?_ (Nat.le_of_ble_eq_true rfl) (Nat.le_of_ble_eq_true rfl)
      exact w_th hC9 hd9 ho hk9 (by decide)
  · obtain ⟨A9, ⟨hk9, hr9, hC9⟩, hd9, rfl⟩ := hq
    refine z_i2l C dL_pour_9 ?_
    refine pf_L_13 C (z_un_r hd9 ho) dL_pour_10 ?_
    refine z_goto C (tgt := 24) dL_pour_13 (by decide) ?_
    refine z_iconst C (v := 0) dL_pour_24 (by decide) ?_
    refine ret dL_pour_25 rfl ?_ (Nat.le_of_ble_eq_true rfl) (Nat.le_of_ble_eq_true rfl)
    exact w_ok hC9 hd9 ho hk9 hr9
set_option maxRecDepth 20000 in
theorem w_lay (l : Launch) (h_st : l.stackTraces = false) {G : zG} {u : sS} {x pa sp ln rf sb ou t : Nat} {C9 B : zM} {on : Int64} {os : Option Nat} (hC : s_CI G x pa sp ln rf sb u C9) (hd : z_dj C9 B) (ho : B ou = some (cOu on os)) (hok : s_ok t u) (a1 a2 : Int32) : z_Hi l G qL_lay [(0, 11, 14, 19), (0, 11, 18, 21)] (z_rm 13 8 48) [.ref x, .int a1, .int a2, .ref ou] (z_un C9 B) (w_P G x pa sp ln rf sb ou B (z_lt (z_is a1 0 15) (t_nn a2)) u (s_lay u a1 a2)) := by
  obtain ⟨P, RA, VA, hC⟩ := hC
  refine z_Hi_of _ rfl rfl (Nat.le_of_ble_eq_true rfl) (fun X hl hG C T ret => ?_)
  subst hl; subst hG
  have C : z_C X cL_lay RL 5 (z_rm 13 8 48) := C
  show z_W X (z_un C9 B) 0 0 0 [(0, .ref x), (1, .int a1), (2, .int a2), (3, .ref ou)] []
  refine z_aload_n C dL_lay_0 rfl 3 rfl ?_
  refine z_aload_n C dL_lay_1 rfl 0 rfl ?_
  refine z_iload_n C dL_lay_2 rfl 1 rfl ?_
  refine z_iload_n C dL_lay_3 rfl 2 rfl ?_
  refine z_callXVi (rest := [.ref ou]) (k' := 8) (n' := 48) C (z_Xi_fr hd (a_X3_lay (z_l X) h_st hC hok a1 a2)) (cs_L_89 C ⟨Nat.le_of_ble_eq_true rfl, Nat.le_of_ble_eq_true rfl⟩) (z_un_l hC.1) rfl rfl rfl rfl (Nat.le_of_ble_eq_true rfl) rfl rfl (Nat.le_of_ble_eq_true rfl) (Nat.le_of_ble_eq_true rfl) dL_lay_4 (fun E9 M9 hq => ?_) (fun x9 M9 hq => ?_)
  · obtain ⟨A9, ⟨hcx, hC9⟩, hd9, rfl⟩ := hq
    rcases hcx with ⟨hk9, rfl⟩ | ⟨hk9, rfl⟩
    · refine z_catch C T [] ⟨0, 11, 14, 19⟩ _ rfl (fun z hz => absurd hz List.not_mem_nil) rfl (by decide) kw693 (z_cI C) (fun qx => ?_)
      show z_W X (z_un A9 B) 8 48 14 [(0, .ref x), (1, .int a1), (2, .int a2), (3, .ref ou)] [.ref qx]
      refine z_astore (lv' := [(4, .ref qx), (0, .ref x), (1, .int a1), (2, .int a2), (3, .ref ou)]) C dL_lay_14 (by decide) rfl ?_
      refine z_iconst C (v := 1) dL_lay_16 (by decide) ?_
      refine ret dL_lay_17 rfl ?_ (Nat.le_of_ble_eq_true rfl) (Nat.le_of_ble_eq_true rfl)
      exact w_th hC9 hd9 ho hk9 (by decide)
    · refine z_catch C T [⟨0, 11, 14, 19⟩] ⟨0, 11, 18, 21⟩ _ rfl (fun z hz => by rw [List.mem_singleton.mp hz]; exact Or.inr ⟨by decide, _, kw693, z_pasA C⟩) rfl (by decide) kw694 (z_cA C) (fun qx => ?_)
      show z_W X (z_un A9 B) 8 48 18 [(0, .ref x), (1, .int a1), (2, .int a2), (3, .ref ou)] [.ref qx]
      refine z_astore (lv' := [(4, .ref qx), (0, .ref x), (1, .int a1), (2, .int a2), (3, .ref ou)]) C dL_lay_18 (by decide) rfl ?_
      refine z_iconst C (v := 2) dL_lay_20 (by decide) ?_
      refine ret dL_lay_21 rfl ?_ (Nat.le_of_ble_eq_true rfl) (Nat.le_of_ble_eq_true rfl)
      exact w_th hC9 hd9 ho hk9 (by decide)
  · obtain ⟨A9, ⟨hk9, hr9, hC9⟩, hd9, rfl⟩ := hq
    refine z_i2l C dL_lay_7 ?_
    refine pf_L_13 C (z_un_r hd9 ho) dL_lay_8 ?_
    refine z_goto C (tgt := 22) dL_lay_11 (by decide) ?_
    refine z_iconst C (v := 0) dL_lay_22 (by decide) ?_
    refine ret dL_lay_23 rfl ?_ (Nat.le_of_ble_eq_true rfl) (Nat.le_of_ble_eq_true rfl)
    exact w_ok hC9 hd9 ho hk9 hr9
set_option maxRecDepth 20000 in
theorem w_reach (l : Launch) (h_st : l.stackTraces = false) {G : zG} {u : sS} {x pa sp ln rf sb ou t : Nat} {C9 B : zM} {on : Int64} {os : Option Nat} (hC : s_CI G x pa sp ln rf sb u C9) (hd : z_dj C9 B) (ho : B ou = some (cOu on os)) (hok : s_ok t u) (pane a2 a3 : Int32) : z_Hi l G qL_reach [(0, 13, 16, 19), (0, 13, 20, 21)] (z_rm 13 8 48) [.ref x, .int pane, .int a2, .int a3, .ref ou] (z_un C9 B) (w_P G x pa sp ln rf sb ou B (z_lt (z_is pane 0 5) (t_nn a3)) u (s_reach u pane.toNatClampNeg a2 a3)) := by
  obtain ⟨P, RA, VA, hC⟩ := hC
  refine z_Hi_of _ rfl rfl (Nat.le_of_ble_eq_true rfl) (fun X hl hG C T ret => ?_)
  subst hl; subst hG
  have C : z_C X cL_reach RL 6 (z_rm 13 8 48) := C
  show z_W X (z_un C9 B) 0 0 0 [(0, .ref x), (1, .int pane), (2, .int a2), (3, .int a3), (4, .ref ou)] []
  refine z_aload C dL_reach_0 4 rfl ?_
  refine z_aload_n C dL_reach_2 rfl 0 rfl ?_
  refine z_iload_n C dL_reach_3 rfl 1 rfl ?_
  refine z_iload_n C dL_reach_4 rfl 2 rfl ?_
  refine z_iload_n C dL_reach_5 rfl 3 rfl ?_
  refine z_callXVi (rest := [.ref ou]) (k' := 8) (n' := 48) C (z_Xi_fr hd (a_X3_reach (z_l X) h_st hC hok pane a2 a3)) (cs_L_92 C ⟨Nat.le_of_ble_eq_true rfl, Nat.le_of_ble_eq_true rfl⟩) (z_un_l hC.1) rfl rfl rfl rfl (Nat.le_of_ble_eq_true rfl) rfl rfl (Nat.le_of_ble_eq_true rfl) (Nat.le_of_ble_eq_true rfl) dL_reach_6 (fun E9 M9 hq => ?_) (fun x9 M9 hq => ?_)
  · obtain ⟨A9, ⟨hcx, hC9⟩, hd9, rfl⟩ := hq
    rcases hcx with ⟨hk9, rfl⟩ | ⟨hk9, rfl⟩
    · refine z_catch C T [] ⟨0, 13, 16, 19⟩ _ rfl (fun z hz => absurd hz List.not_mem_nil) rfl (by decide) kw693 (z_cI C) (fun qx => ?_)
      show z_W X (z_un A9 B) 8 48 16 [(0, .ref x), (1, .int pane), (2, .int a2), (3, .int a3), (4, .ref ou)] [.ref qx]
      refine z_astore (lv' := [(5, .ref qx), (0, .ref x), (1, .int pane), (2, .int a2), (3, .int a3), (4, .ref ou)]) C dL_reach_16 (by decide) rfl ?_
      refine z_iconst C (v := 1) dL_reach_18 (by decide) ?_
      refine ret dL_reach_19 rfl ?_ (Nat.le_of_ble_eq_true rfl) (Nat.le_of_ble_eq_true rfl)
      exact w_th hC9 hd9 ho hk9 (by decide)
    · refine z_catch C T [⟨0, 13, 16, 19⟩] ⟨0, 13, 20, 21⟩ _ rfl (fun z hz => by rw [List.mem_singleton.mp hz]; exact Or.inr ⟨by decide, _, kw693, z_pasA C⟩) rfl (by decide) kw694 (z_cA C) (fun qx => ?_)
      show z_W X (z_un A9 B) 8 48 20 [(0, .ref x), (1, .int pane), (2, .int a2), (3, .int a3), (4, .ref ou)] [.ref qx]
      refine z_astore (lv' := [(5, .ref qx), (0, .ref x), (1, .int pane), (2, .int a2), (3, .int a3), (4, .ref ou)]) C dL_reach_20 (by decide) rfl ?_
      refine z_iconst C (v := 2) dL_reach_22 (by decide) ?_
      refine ret dL_reach_23 rfl ?_ (Nat.le_of_ble_eq_true rfl) (Nat.le_of_ble_eq_true rfl)
      exact w_th hC9 hd9 ho hk9 (by decide)
  · obtain ⟨A9, ⟨hk9, hr9, hC9⟩, hd9, rfl⟩ := hq
    refine z_i2l C dL_reach_9 ?_
    refine pf_L_13 C (z_un_r hd9 ho) dL_reach_10 ?_
    refine z_goto C (tgt := 24) dL_reach_13 (by decide) ?_
    refine z_iconst C (v := 0) dL_reach_24 (by decide) ?_
    refine ret dL_reach_25 rfl ?_ (Nat.le_of_ble_eq_true rfl) (Nat.le_of_ble_eq_true rfl)
    exact w_ok hC9 hd9 ho hk9 hr9
set_option maxRecDepth 20000 in
theorem w_get (l : Launch) (h_st : l.stackTraces = false) {G : zG} {u : sS} {x pa sp ln rf sb ou t : Nat} {C9 B : zM} {on : Int64} {os : Option Nat} (hC : s_CI G x pa sp ln rf sb u C9) (hd : z_dj C9 B) (ho : B ou = some (cOu on os)) (hok : s_ok t u) (pane : Int32) : z_Hi l G qL_get [(0, 10, 13, 19)] (z_rm 13 8 48) [.ref x, .int pane, .ref ou] (z_un C9 B) (w_P G x pa sp ln rf sb ou B (z_lt (z_is pane 0 5) 1) u (s_get u pane.toNatClampNeg)) := by
  obtain ⟨P, RA, VA, hC⟩ := hC
  refine z_Hi_of _ rfl rfl (Nat.le_of_ble_eq_true rfl) (fun X hl hG C T ret => ?_)
  subst hl; subst hG
  have C : z_C X cL_get RL 4 (z_rm 13 8 48) := C
  show z_W X (z_un C9 B) 0 0 0 [(0, .ref x), (1, .int pane), (2, .ref ou)] []
  refine z_aload_n C dL_get_0 rfl 2 rfl ?_
  refine z_aload_n C dL_get_1 rfl 0 rfl ?_
  refine z_iload_n C dL_get_2 rfl 1 rfl ?_
  refine z_callXVi (rest := [.ref ou]) (k' := 8) (n' := 48) C (z_Xi_fr hd (a_X3_get (z_l X) h_st hC hok pane)) (cs_L_95 C ⟨Nat.le_of_ble_eq_true rfl, Nat.le_of_ble_eq_true rfl⟩) (z_un_l hC.1) rfl rfl rfl rfl (Nat.le_of_ble_eq_true rfl) rfl rfl (Nat.le_of_ble_eq_true rfl) (Nat.le_of_ble_eq_true rfl) dL_get_3 (fun E9 M9 hq => ?_) (fun x9 M9 hq => ?_)
  · obtain ⟨A9, ⟨hcx, hC9⟩, hd9, rfl⟩ := hq
    rcases hcx with ⟨hk9, rfl⟩ | ⟨hk9, rfl⟩
    · refine z_catch C T [] ⟨0, 10, 13, 19⟩ _ rfl (fun z hz => absurd hz List.not_mem_nil) rfl (by decide) kw693 (z_cI C) (fun qx => ?_)
      show z_W X (z_un A9 B) 8 48 13 [(0, .ref x), (1, .int pane), (2, .ref ou)] [.ref qx]
      refine z_astore_n (lv' := [(3, .ref qx), (0, .ref x), (1, .int pane), (2, .ref ou)]) C dL_get_13 rfl (by decide) rfl ?_
      refine z_iconst C (v := 1) dL_get_14 (by decide) ?_
      refine ret dL_get_15 rfl ?_ (Nat.le_of_ble_eq_true rfl) (Nat.le_of_ble_eq_true rfl)
      exact w_th hC9 hd9 ho hk9 (by decide)
    · exact absurd hk9 z_lt1
  · obtain ⟨A9, ⟨hk9, hr9, hC9⟩, hd9, rfl⟩ := hq
    refine z_i2l C dL_get_6 ?_
    refine pf_L_13 C (z_un_r hd9 ho) dL_get_7 ?_
    refine z_goto C (tgt := 16) dL_get_10 (by decide) ?_
    refine z_iconst C (v := 0) dL_get_16 (by decide) ?_
    refine ret dL_get_17 rfl ?_ (Nat.le_of_ble_eq_true rfl) (Nat.le_of_ble_eq_true rfl)
    exact w_ok hC9 hd9 ho hk9 hr9
set_option maxRecDepth 20000 in
theorem w_drain (l : Launch) (h_st : l.stackTraces = false) {G : zG} {u : sS} {x pa sp ln rf sb ou t : Nat} {C9 B : zM} {on : Int64} {os : Option Nat} (hC : s_CI G x pa sp ln rf sb u C9) (hd : z_dj C9 B) (ho : B ou = some (cOu on os)) (hok : s_ok t u) (pane a2 : Int32) : z_Hi l G qL_drain [(0, 11, 14, 19), (0, 11, 18, 21)] (z_rm 13 8 48) [.ref x, .int pane, .int a2, .ref ou] (z_un C9 B) (w_P G x pa sp ln rf sb ou B (z_lt (z_is pane 0 5) (z_is a2 0 20)) u (s_drain u pane.toNatClampNeg a2)) := by
  obtain ⟨P, RA, VA, hC⟩ := hC
  refine z_Hi_of _ rfl rfl (Nat.le_of_ble_eq_true rfl) (fun X hl hG C T ret => ?_)
  subst hl; subst hG
  have C : z_C X cL_drain RL 5 (z_rm 13 8 48) := C
  show z_W X (z_un C9 B) 0 0 0 [(0, .ref x), (1, .int pane), (2, .int a2), (3, .ref ou)] []
  refine z_aload_n C dL_drain_0 rfl 3 rfl ?_
  refine z_aload_n C dL_drain_1 rfl 0 rfl ?_
  refine z_iload_n C dL_drain_2 rfl 1 rfl ?_
  refine z_iload_n C dL_drain_3 rfl 2 rfl ?_
  refine z_callXVi (rest := [.ref ou]) (k' := 8) (n' := 48) C (z_Xi_fr hd (a_X3_drain (z_l X) h_st hC hok pane a2)) (cs_L_98 C ⟨Nat.le_of_ble_eq_true rfl, Nat.le_of_ble_eq_true rfl⟩) (z_un_l hC.1) rfl rfl rfl rfl (Nat.le_of_ble_eq_true rfl) rfl rfl (Nat.le_of_ble_eq_true rfl) (Nat.le_of_ble_eq_true rfl) dL_drain_4 (fun E9 M9 hq => ?_) (fun x9 M9 hq => ?_)
  · obtain ⟨A9, ⟨hcx, hC9⟩, hd9, rfl⟩ := hq
    rcases hcx with ⟨hk9, rfl⟩ | ⟨hk9, rfl⟩
    · refine z_catch C T [] ⟨0, 11, 14, 19⟩ _ rfl (fun z hz => absurd hz List.not_mem_nil) rfl (by decide) kw693 (z_cI C) (fun qx => ?_)
      show z_W X (z_un A9 B) 8 48 14 [(0, .ref x), (1, .int pane), (2, .int a2), (3, .ref ou)] [.ref qx]
      refine z_astore (lv' := [(4, .ref qx), (0, .ref x), (1, .int pane), (2, .int a2), (3, .ref ou)]) C dL_drain_14 (by decide) rfl ?_
      refine z_iconst C (v := 1) dL_drain_16 (by decide) ?_
      refine ret dL_drain_17 rfl ?_ (Nat.le_of_ble_eq_true rfl) (Nat.le_of_ble_eq_true rfl)
      exact w_th hC9 hd9 ho hk9 (by decide)
    · refine z_catch C T [⟨0, 11, 14, 19⟩] ⟨0, 11, 18, 21⟩ _ rfl (fun z hz => by rw [List.mem_singleton.mp hz]; exact Or.inr ⟨by decide, _, kw693, z_pasA C⟩) rfl (by decide) kw694 (z_cA C) (fun qx => ?_)
      show z_W X (z_un A9 B) 8 48 18 [(0, .ref x), (1, .int pane), (2, .int a2), (3, .ref ou)] [.ref qx]
      refine z_astore (lv' := [(4, .ref qx), (0, .ref x), (1, .int pane), (2, .int a2), (3, .ref ou)]) C dL_drain_18 (by decide) rfl ?_
      refine z_iconst C (v := 2) dL_drain_20 (by decide) ?_
      refine ret dL_drain_21 rfl ?_ (Nat.le_of_ble_eq_true rfl) (Nat.le_of_ble_eq_true rfl)
      exact w_th hC9 hd9 ho hk9 (by decide)
  · obtain ⟨A9, ⟨hk9, hr9, hC9⟩, hd9, rfl⟩ := hq
    refine z_i2l C dL_drain_7 ?_
    refine pf_L_13 C (z_un_r hd9 ho) dL_drain_8 ?_
    refine z_goto C (tgt := 22) dL_drain_11 (by decide) ?_
    refine z_iconst C (v := 0) dL_drain_22 (by decide) ?_
    refine ret dL_drain_23 rfl ?_ (Nat.le_of_ble_eq_true rfl) (Nat.le_of_ble_eq_true rfl)
    exact w_ok hC9 hd9 ho hk9 hr9
set_option maxRecDepth 20000 in
theorem w_pop (l : Launch) (h_st : l.stackTraces = false) {G : zG} {u : sS} {x pa sp ln rf sb ou t : Nat} {C9 B : zM} {on : Int64} {os : Option Nat} (hC : s_CI G x pa sp ln rf sb u C9) (hd : z_dj C9 B) (ho : B ou = some (cOu on os)) (hok : s_ok t u) (pane : Int32) : z_Hi l G qL_pop [(0, 10, 13, 19)] (z_rm 13 8 48) [.ref x, .int pane, .ref ou] (z_un C9 B) (w_P G x pa sp ln rf sb ou B (z_lt (z_is pane 0 5) 1) u (s_pop u pane.toNatClampNeg)) := by
  obtain ⟨P, RA, VA, hC⟩ := hC
  refine z_Hi_of _ rfl rfl (Nat.le_of_ble_eq_true rfl) (fun X hl hG C T ret => ?_)
  subst hl; subst hG
  have C : z_C X cL_pop RL 4 (z_rm 13 8 48) := C
  show z_W X (z_un C9 B) 0 0 0 [(0, .ref x), (1, .int pane), (2, .ref ou)] []
  refine z_aload_n C dL_pop_0 rfl 2 rfl ?_
  refine z_aload_n C dL_pop_1 rfl 0 rfl ?_
  refine z_iload_n C dL_pop_2 rfl 1 rfl ?_
  refine z_callXVi (rest := [.ref ou]) (k' := 8) (n' := 48) C (z_Xi_fr hd (a_X3_pop (z_l X) h_st hC hok pane)) (cs_L_101 C ⟨Nat.le_of_ble_eq_true rfl, Nat.le_of_ble_eq_true rfl⟩) (z_un_l hC.1) rfl rfl rfl rfl (Nat.le_of_ble_eq_true rfl) rfl rfl (Nat.le_of_ble_eq_true rfl) (Nat.le_of_ble_eq_true rfl) dL_pop_3 (fun E9 M9 hq => ?_) (fun x9 M9 hq => ?_)
  · obtain ⟨A9, ⟨hcx, hC9⟩, hd9, rfl⟩ := hq
    rcases hcx with ⟨hk9, rfl⟩ | ⟨hk9, rfl⟩
    · refine z_catch C T [] ⟨0, 10, 13, 19⟩ _ rfl (fun z hz => absurd hz List.not_mem_nil) rfl (by decide) kw693 (z_cI C) (fun qx => ?_)
      show z_W X (z_un A9 B) 8 48 13 [(0, .ref x), (1, .int pane), (2, .ref ou)] [.ref qx]
      refine z_astore_n (lv' := [(3, .ref qx), (0, .ref x), (1, .int pane), (2, .ref ou)]) C dL_pop_13 rfl (by decide) rfl ?_
      refine z_iconst C (v := 1) dL_pop_14 (by decide) ?_
      refine ret dL_pop_15 rfl ?_ (Nat.le_of_ble_eq_true rfl) (Nat.le_of_ble_eq_true rfl)
      exact w_th hC9 hd9 ho hk9 (by decide)
    · exact absurd hk9 z_lt1
  · obtain ⟨A9, ⟨hk9, hr9, hC9⟩, hd9, rfl⟩ := hq
    refine z_i2l C dL_pop_6 ?_
    refine pf_L_13 C (z_un_r hd9 ho) dL_pop_7 ?_
    refine z_goto C (tgt := 16) dL_pop_10 (by decide) ?_
    refine z_iconst C (v := 0) dL_pop_16 (by decide) ?_
    refine ret dL_pop_17 rfl ?_ (Nat.le_of_ble_eq_true rfl) (Nat.le_of_ble_eq_true rfl)
    exact w_ok hC9 hd9 ho hk9 hr9
set_option maxRecDepth 20000 in
theorem w_ofPane (l : Launch) (h_st : l.stackTraces = false) {G : zG} {u : sS} {x pa sp ln rf sb ou t : Nat} {C9 B : zM} {on : Int64} {os : Option Nat} (hC : s_CI G x pa sp ln rf sb u C9) (hd : z_dj C9 B) (ho : B ou = some (cOu on os)) (hok : s_ok t u) (pane a2 : Int32) : z_Hi l G qL_ofPane [(0, 11, 14, 19), (0, 11, 18, 21)] (z_rm 13 8 48) [.ref x, .int pane, .int a2, .ref ou] (z_un C9 B) (w_P G x pa sp ln rf sb ou B (z_lt (z_is pane 0 5) (z_is a2 0 9)) u ((s_of u pane.toNatClampNeg a2, u))) := by
  obtain ⟨P, RA, VA, hC⟩ := hC
  refine z_Hi_of _ rfl rfl (Nat.le_of_ble_eq_true rfl) (fun X hl hG C T ret => ?_)
  subst hl; subst hG
  have C : z_C X cL_ofPane RL 5 (z_rm 13 8 48) := C
  show z_W X (z_un C9 B) 0 0 0 [(0, .ref x), (1, .int pane), (2, .int a2), (3, .ref ou)] []
  refine z_aload_n C dL_ofPane_0 rfl 3 rfl ?_
  refine z_aload_n C dL_ofPane_1 rfl 0 rfl ?_
  refine z_iload_n C dL_ofPane_2 rfl 1 rfl ?_
  refine z_iload_n C dL_ofPane_3 rfl 2 rfl ?_
  refine z_callXVi (rest := [.ref ou]) (k' := 8) (n' := 48) C (z_Xi_fr hd (a_X3_ofPane (z_l X) h_st hC hok pane a2)) (cs_L_104 C ⟨Nat.le_of_ble_eq_true rfl, Nat.le_of_ble_eq_true rfl⟩) (z_un_l hC.1) rfl rfl rfl rfl (Nat.le_of_ble_eq_true rfl) rfl rfl (Nat.le_of_ble_eq_true rfl) (Nat.le_of_ble_eq_true rfl) dL_ofPane_4 (fun E9 M9 hq => ?_) (fun x9 M9 hq => ?_)
  · obtain ⟨A9, ⟨hcx, hC9⟩, hd9, rfl⟩ := hq
    rcases hcx with ⟨hk9, rfl⟩ | ⟨hk9, rfl⟩
    · refine z_catch C T [] ⟨0, 11, 14, 19⟩ _ rfl (fun z hz => absurd hz List.not_mem_nil) rfl (by decide) kw693 (z_cI C) (fun qx => ?_)
      show z_W X (z_un A9 B) 8 48 14 [(0, .ref x), (1, .int pane), (2, .int a2), (3, .ref ou)] [.ref qx]
      refine z_astore (lv' := [(4, .ref qx), (0, .ref x), (1, .int pane), (2, .int a2), (3, .ref ou)]) C dL_ofPane_14 (by decide) rfl ?_
      refine z_iconst C (v := 1) dL_ofPane_16 (by decide) ?_
      refine ret dL_ofPane_17 rfl ?_ (Nat.le_of_ble_eq_true rfl) (Nat.le_of_ble_eq_true rfl)
      exact w_th hC9 hd9 ho hk9 (by decide)
    · refine z_catch C T [⟨0, 11, 14, 19⟩] ⟨0, 11, 18, 21⟩ _ rfl (fun z hz => by rw [List.mem_singleton.mp hz]; exact Or.inr ⟨by decide, _, kw693, z_pasA C⟩) rfl (by decide) kw694 (z_cA C) (fun qx => ?_)
      show z_W X (z_un A9 B) 8 48 18 [(0, .ref x), (1, .int pane), (2, .int a2), (3, .ref ou)] [.ref qx]
      refine z_astore (lv' := [(4, .ref qx), (0, .ref x), (1, .int pane), (2, .int a2), (3, .ref ou)]) C dL_ofPane_18 (by decide) rfl ?_
      refine z_iconst C (v := 2) dL_ofPane_20 (by decide) ?_
      refine ret dL_ofPane_21 rfl ?_ (Nat.le_of_ble_eq_true rfl) (Nat.le_of_ble_eq_true rfl)
      exact w_th hC9 hd9 ho hk9 (by decide)
  · obtain ⟨A9, ⟨hk9, hr9, hC9⟩, hd9, rfl⟩ := hq
    refine z_i2l C dL_ofPane_7 ?_
    refine pf_L_13 C (z_un_r hd9 ho) dL_ofPane_8 ?_
    refine z_goto C (tgt := 22) dL_ofPane_11 (by decide) ?_
    refine z_iconst C (v := 0) dL_ofPane_22 (by decide) ?_
    refine ret dL_ofPane_23 rfl ?_ (Nat.le_of_ble_eq_true rfl) (Nat.le_of_ble_eq_true rfl)
    exact w_ok hC9 hd9 ho hk9 hr9
set_option maxRecDepth 20000 in
theorem w_at (l : Launch) (h_st : l.stackTraces = false) {G : zG} {u : sS} {x pa sp ln rf sb ou t : Nat} {C9 B : zM} {on : Int64} {os : Option Nat} (hC : s_CI G x pa sp ln rf sb u C9) (hd : z_dj C9 B) (ho : B ou = some (cOu on os)) (hok : s_ok t u) (pane a2 : Int32) : z_Hi l G qL_at [(0, 11, 14, 19)] (z_rm 13 8 48) [.ref x, .int pane, .int a2, .ref ou] (z_un C9 B) (w_P G x pa sp ln rf sb ou B (z_lt (z_is pane 0 5) 1) u ((s_at u pane.toNatClampNeg a2, u))) := by
  obtain ⟨P, RA, VA, hC⟩ := hC
  refine z_Hi_of _ rfl rfl (Nat.le_of_ble_eq_true rfl) (fun X hl hG C T ret => ?_)
  subst hl; subst hG
  have C : z_C X cL_at RL 5 (z_rm 13 8 48) := C
  show z_W X (z_un C9 B) 0 0 0 [(0, .ref x), (1, .int pane), (2, .int a2), (3, .ref ou)] []
  refine z_aload_n C dL_at_0 rfl 3 rfl ?_
  refine z_aload_n C dL_at_1 rfl 0 rfl ?_
  refine z_iload_n C dL_at_2 rfl 1 rfl ?_
  refine z_iload_n C dL_at_3 rfl 2 rfl ?_
  refine z_callXVi (rest := [.ref ou]) (k' := 8) (n' := 48) C (z_Xi_fr hd (a_X3_at (z_l X) h_st hC hok pane a2)) (cs_L_107 C ⟨Nat.le_of_ble_eq_true rfl, Nat.le_of_ble_eq_true rfl⟩) (z_un_l hC.1) rfl rfl rfl rfl (Nat.le_of_ble_eq_true rfl) rfl rfl (Nat.le_of_ble_eq_true rfl) (Nat.le_of_ble_eq_true rfl) dL_at_4 (fun E9 M9 hq => ?_) (fun x9 M9 hq => ?_)
  · obtain ⟨A9, ⟨hcx, hC9⟩, hd9, rfl⟩ := hq
    rcases hcx with ⟨hk9, rfl⟩ | ⟨hk9, rfl⟩
    · refine z_catch C T [] ⟨0, 11, 14, 19⟩ _ rfl (fun z hz => absurd hz List.not_mem_nil) rfl (by decide) kw693 (z_cI C) (fun qx => ?_)
      show z_W X (z_un A9 B) 8 48 14 [(0, .ref x), (1, .int pane), (2, .int a2), (3, .ref ou)] [.ref qx]
      refine z_astore (lv' := [(4, .ref qx), (0, .ref x), (1, .int pane), (2, .int a2), (3, .ref ou)]) C dL_at_14 (by decide) rfl ?_
      refine z_iconst C (v := 1) dL_at_16 (by decide) ?_
      refine ret dL_at_17 rfl ?_ (Nat.le_of_ble_eq_true rfl) (Nat.le_of_ble_eq_true rfl)
      exact w_th hC9 hd9 ho hk9 (by decide)
    · exact absurd hk9 z_lt1
  · obtain ⟨A9, ⟨hk9, hr9, hC9⟩, hd9, rfl⟩ := hq
    refine z_i2l C dL_at_7 ?_
    refine pf_L_13 C (z_un_r hd9 ho) dL_at_8 ?_
    refine z_goto C (tgt := 18) dL_at_11 (by decide) ?_
    refine z_iconst C (v := 0) dL_at_18 (by decide) ?_
    refine ret dL_at_19 rfl ?_ (Nat.le_of_ble_eq_true rfl) (Nat.le_of_ble_eq_true rfl)
    exact w_ok hC9 hd9 ho hk9 hr9
set_option maxRecDepth 20000 in
theorem w_peek (l : Launch) (h_st : l.stackTraces = false) {G : zG} {u : sS} {x pa sp ln rf sb ou t : Nat} {C9 B : zM} {on : Int64} {os : Option Nat} (hC : s_CI G x pa sp ln rf sb u C9) (hd : z_dj C9 B) (ho : B ou = some (cOu on os)) (hok : s_ok t u) (pane : Int32) : z_Hi l G qL_peek [(0, 10, 13, 19)] (z_rm 13 8 48) [.ref x, .int pane, .ref ou] (z_un C9 B) (w_P G x pa sp ln rf sb ou B (z_lt (z_is pane 0 5) 1) u ((s_peek u pane.toNatClampNeg, u))) := by
  obtain ⟨P, RA, VA, hC⟩ := hC
  refine z_Hi_of _ rfl rfl (Nat.le_of_ble_eq_true rfl) (fun X hl hG C T ret => ?_)
  subst hl; subst hG
  have C : z_C X cL_peek RL 4 (z_rm 13 8 48) := C
  show z_W X (z_un C9 B) 0 0 0 [(0, .ref x), (1, .int pane), (2, .ref ou)] []
  refine z_aload_n C dL_peek_0 rfl 2 rfl ?_
  refine z_aload_n C dL_peek_1 rfl 0 rfl ?_
  refine z_iload_n C dL_peek_2 rfl 1 rfl ?_
  refine z_callXVi (rest := [.ref ou]) (k' := 8) (n' := 48) C (z_Xi_fr hd (a_X3_peek (z_l X) h_st hC hok pane)) (cs_L_110 C ⟨Nat.le_of_ble_eq_true rfl, Nat.le_of_ble_eq_true rfl⟩) (z_un_l hC.1) rfl rfl rfl rfl (Nat.le_of_ble_eq_true rfl) rfl rfl (Nat.le_of_ble_eq_true rfl) (Nat.le_of_ble_eq_true rfl) dL_peek_3 (fun E9 M9 hq => ?_) (fun x9 M9 hq => ?_)
  · obtain ⟨A9, ⟨hcx, hC9⟩, hd9, rfl⟩ := hq
    rcases hcx with ⟨hk9, rfl⟩ | ⟨hk9, rfl⟩
    · refine z_catch C T [] ⟨0, 10, 13, 19⟩ _ rfl (fun z hz => absurd hz List.not_mem_nil) rfl (by decide) kw693 (z_cI C) (fun qx => ?_)
      show z_W X (z_un A9 B) 8 48 13 [(0, .ref x), (1, .int pane), (2, .ref ou)] [.ref qx]
      refine z_astore_n (lv' := [(3, .ref qx), (0, .ref x), (1, .int pane), (2, .ref ou)]) C dL_peek_13 rfl (by decide) rfl ?_
      refine z_iconst C (v := 1) dL_peek_14 (by decide) ?_
      refine ret dL_peek_15 rfl ?_ (Nat.le_of_ble_eq_true rfl) (Nat.le_of_ble_eq_true rfl)
      exact w_th hC9 hd9 ho hk9 (by decide)
    · exact absurd hk9 z_lt1
  · obtain ⟨A9, ⟨hk9, hr9, hC9⟩, hd9, rfl⟩ := hq
    refine z_i2l C dL_peek_6 ?_
    refine pf_L_13 C (z_un_r hd9 ho) dL_peek_7 ?_
    refine z_goto C (tgt := 16) dL_peek_10 (by decide) ?_
    refine z_iconst C (v := 0) dL_peek_16 (by decide) ?_
    refine ret dL_peek_17 rfl ?_ (Nat.le_of_ble_eq_true rfl) (Nat.le_of_ble_eq_true rfl)
    exact w_ok hC9 hd9 ho hk9 hr9
set_option maxRecDepth 20000 in
theorem w_total (l : Launch) (h_st : l.stackTraces = false) {G : zG} {u : sS} {x pa sp ln rf sb ou t : Nat} {C9 B : zM} {on : Int64} {os : Option Nat} (hC : s_CI G x pa sp ln rf sb u C9) (hd : z_dj C9 B) (ho : B ou = some (cOu on os)) (hok : s_ok t u) (pane : Int32) : z_Hi l G qL_total [(0, 9, 12, 19)] (z_rm 13 40 1500) [.ref x, .int pane, .ref ou] (z_un C9 B) (w_T G x pa sp ln rf sb ou B (z_lt (z_is pane 0 5) 1) u (t_total u pane.toNatClampNeg)) := by
  obtain ⟨P, RA, VA, hC⟩ := hC
  refine z_Hi_of _ rfl rfl (Nat.le_of_ble_eq_true rfl) (fun X hl hG C T ret => ?_)
  subst hl; subst hG
  have C : z_C X cL_total RL 4 (z_rm 13 40 1500) := C
  show z_W X (z_un C9 B) 0 0 0 [(0, .ref x), (1, .int pane), (2, .ref ou)] []
  refine z_aload_n C dL_total_0 rfl 2 rfl ?_
  refine z_aload_n C dL_total_1 rfl 0 rfl ?_
  refine z_iload_n C dL_total_2 rfl 1 rfl ?_
  refine z_callXVr (rest := [.ref ou]) (k' := 40) (n' := 1500) C (z_Xr_fr hd (a_X3_total (z_l X) h_st hC hok pane)) (cs_L_113 C ⟨Nat.le_of_ble_eq_true rfl, Nat.le_of_ble_eq_true rfl⟩) (z_un_l hC.1) rfl rfl rfl rfl (Nat.le_of_ble_eq_true rfl) rfl rfl (Nat.le_of_ble_eq_true rfl) (Nat.le_of_ble_eq_true rfl) dL_total_3 (fun E9 M9 hq => ?_) (fun x9 M9 hq => ?_)
  · obtain ⟨A9, ⟨hcx, hC9⟩, hd9, rfl⟩ := hq
    rcases hcx with ⟨hk9, rfl⟩ | ⟨hk9, rfl⟩
    · refine z_catch C T [] ⟨0, 9, 12, 19⟩ _ rfl (fun z hz => absurd hz List.not_mem_nil) rfl (by decide) kw693 (z_cI C) (fun qx => ?_)
      show z_W X (z_un A9 B) 40 1500 12 [(0, .ref x), (1, .int pane), (2, .ref ou)] [.ref qx]
      refine z_astore_n (lv' := [(3, .ref qx), (0, .ref x), (1, .int pane), (2, .ref ou)]) C dL_total_12 rfl (by decide) rfl ?_
      refine z_iconst C (v := 1) dL_total_13 (by decide) ?_
      refine ret dL_total_14 rfl ?_ (Nat.le_of_ble_eq_true rfl) (Nat.le_of_ble_eq_true rfl)
      exact w_thT hC9 hd9 ho hk9 (by decide)
    · exact absurd hk9 z_lt1
  · obtain ⟨A9, ⟨hk9, hC9, hS9⟩, hd9, rfl⟩ := hq
    refine pf_L_117 (xx := (some x9)) C (z_un_r hd9 ho) dL_total_6 ?_
    refine z_goto C (tgt := 15) dL_total_9 (by decide) ?_
    refine z_iconst C (v := 0) dL_total_15 (by decide) ?_
    refine ret dL_total_16 rfl ?_ (Nat.le_of_ble_eq_true rfl) (Nat.le_of_ble_eq_true rfl)
    exact w_okT hC9 hS9 hd9 ho hk9
set_option maxRecDepth 20000 in
theorem w_text (l : Launch) (h_st : l.stackTraces = false) {G : zG} {u : sS} {x pa sp ln rf sb ou t : Nat} {C9 B : zM} {on : Int64} {os : Option Nat} (hC : s_CI G x pa sp ln rf sb u C9) (hd : z_dj C9 B) (ho : B ou = some (cOu on os)) (hok : s_ok t u) (pane : Int32) : z_Hi l G qL_text [(0, 9, 12, 19)] (z_rm 13 40 1500) [.ref x, .int pane, .ref ou] (z_un C9 B) (w_T G x pa sp ln rf sb ou B (z_lt (z_is pane 0 5) 1) u (t_text u pane.toNatClampNeg)) := by
  obtain ⟨P, RA, VA, hC⟩ := hC
  refine z_Hi_of _ rfl rfl (Nat.le_of_ble_eq_true rfl) (fun X hl hG C T ret => ?_)
  subst hl; subst hG
  have C : z_C X cL_text RL 4 (z_rm 13 40 1500) := C
  show z_W X (z_un C9 B) 0 0 0 [(0, .ref x), (1, .int pane), (2, .ref ou)] []
  refine z_aload_n C dL_text_0 rfl 2 rfl ?_
  refine z_aload_n C dL_text_1 rfl 0 rfl ?_
  refine z_iload_n C dL_text_2 rfl 1 rfl ?_
  refine z_callXVr (rest := [.ref ou]) (k' := 40) (n' := 1500) C (z_Xr_fr hd (a_X3_text (z_l X) h_st hC hok pane)) (cs_L_121 C ⟨Nat.le_of_ble_eq_true rfl, Nat.le_of_ble_eq_true rfl⟩) (z_un_l hC.1) rfl rfl rfl rfl (Nat.le_of_ble_eq_true rfl) rfl rfl (Nat.le_of_ble_eq_true rfl) (Nat.le_of_ble_eq_true rfl) dL_text_3 (fun E9 M9 hq => ?_) (fun x9 M9 hq => ?_)
  · obtain ⟨A9, ⟨hcx, hC9⟩, hd9, rfl⟩ := hq
    rcases hcx with ⟨hk9, rfl⟩ | ⟨hk9, rfl⟩
    · refine z_catch C T [] ⟨0, 9, 12, 19⟩ _ rfl (fun z hz => absurd hz List.not_mem_nil) rfl (by decide) kw693 (z_cI C) (fun qx => ?_)
      show z_W X (z_un A9 B) 40 1500 12 [(0, .ref x), (1, .int pane), (2, .ref ou)] [.ref qx]
      refine z_astore_n (lv' := [(3, .ref qx), (0, .ref x), (1, .int pane), (2, .ref ou)]) C dL_text_12 rfl (by decide) rfl ?_
      refine z_iconst C (v := 1) dL_text_13 (by decide) ?_
      refine ret dL_text_14 rfl ?_ (Nat.le_of_ble_eq_true rfl) (Nat.le_of_ble_eq_true rfl)
      exact w_thT hC9 hd9 ho hk9 (by decide)
    · exact absurd hk9 z_lt1
  · obtain ⟨A9, ⟨hk9, hC9, hS9⟩, hd9, rfl⟩ := hq
    refine pf_L_117 (xx := (some x9)) C (z_un_r hd9 ho) dL_text_6 ?_
    refine z_goto C (tgt := 15) dL_text_9 (by decide) ?_
    refine z_iconst C (v := 0) dL_text_15 (by decide) ?_
    refine ret dL_text_16 rfl ?_ (Nat.le_of_ble_eq_true rfl) (Nat.le_of_ble_eq_true rfl)
    exact w_okT hC9 hS9 hd9 ho hk9
set_option maxRecDepth 20000 in
theorem w_whole (l : Launch) (h_st : l.stackTraces = false) {G : zG} {u : sS} {x pa sp ln rf sb ou t : Nat} {C9 B : zM} {on : Int64} {os : Option Nat} (hC : s_CI G x pa sp ln rf sb u C9) (hd : z_dj C9 B) (ho : B ou = some (cOu on os)) (hok : s_ok t u) (pane : Int32) : z_Hi l G qL_whole [(0, 9, 12, 19)] (z_rm 13 40 1500) [.ref x, .int pane, .ref ou] (z_un C9 B) (w_T G x pa sp ln rf sb ou B (z_lt (z_is pane 0 5) 1) u (t_whole u pane.toNatClampNeg)) := by
  obtain ⟨P, RA, VA, hC⟩ := hC
  refine z_Hi_of _ rfl rfl (Nat.le_of_ble_eq_true rfl) (fun X hl hG C T ret => ?_)
  subst hl; subst hG
  have C : z_C X cL_whole RL 4 (z_rm 13 40 1500) := C
  show z_W X (z_un C9 B) 0 0 0 [(0, .ref x), (1, .int pane), (2, .ref ou)] []
  refine z_aload_n C dL_whole_0 rfl 2 rfl ?_
  refine z_aload_n C dL_whole_1 rfl 0 rfl ?_
  refine z_iload_n C dL_whole_2 rfl 1 rfl ?_
  refine z_callXVr (rest := [.ref ou]) (k' := 40) (n' := 1500) C (z_Xr_fr hd (a_X3_whole (z_l X) h_st hC hok pane)) (cs_L_124 C ⟨Nat.le_of_ble_eq_true rfl, Nat.le_of_ble_eq_true rfl⟩) (z_un_l hC.1) rfl rfl rfl rfl (Nat.le_of_ble_eq_true rfl) rfl rfl (Nat.le_of_ble_eq_true rfl) (Nat.le_of_ble_eq_true rfl) dL_whole_3 (fun E9 M9 hq => ?_) (fun x9 M9 hq => ?_)
  · obtain ⟨A9, ⟨hcx, hC9⟩, hd9, rfl⟩ := hq
    rcases hcx with ⟨hk9, rfl⟩ | ⟨hk9, rfl⟩
    · refine z_catch C T [] ⟨0, 9, 12, 19⟩ _ rfl (fun z hz => absurd hz List.not_mem_nil) rfl (by decide) kw693 (z_cI C) (fun qx => ?_)
      show z_W X (z_un A9 B) 40 1500 12 [(0, .ref x), (1, .int pane), (2, .ref ou)] [.ref qx]
      refine z_astore_n (lv' := [(3, .ref qx), (0, .ref x), (1, .int pane), (2, .ref ou)]) C dL_whole_12 rfl (by decide) rfl ?_
      refine z_iconst C (v := 1) dL_whole_13 (by decide) ?_
      refine ret dL_whole_14 rfl ?_ (Nat.le_of_ble_eq_true rfl) (Nat.le_of_ble_eq_true rfl)
      exact w_thT hC9 hd9 ho hk9 (by decide)
    · exact absurd hk9 z_lt1
  · obtain ⟨A9, ⟨hk9, hC9, hS9⟩, hd9, rfl⟩ := hq
    refine pf_L_117 (xx := (some x9)) C (z_un_r hd9 ho) dL_whole_6 ?_
    refine z_goto C (tgt := 15) dL_whole_9 (by decide) ?_
    refine z_iconst C (v := 0) dL_whole_15 (by decide) ?_
    refine ret dL_whole_16 rfl ?_ (Nat.le_of_ble_eq_true rfl) (Nat.le_of_ble_eq_true rfl)
    exact w_okT hC9 hS9 hd9 ho hk9
set_option maxRecDepth 20000 in
theorem w_isKin (l : Launch) (h_st : l.stackTraces = false) {G : zG} {u : sS} {x pa sp ln rf sb ou t : Nat} {C9 B : zM} {on : Int64} {os : Option Nat} (hC : s_CI G x pa sp ln rf sb u C9) (hd : z_dj C9 B) (ho : B ou = some (cOu on os)) (hok : s_ok t u) (pane other : Int32) : z_Hi l G qL_isKin [(0, 11, 14, 19)] (z_rm 13 8 48) [.ref x, .int pane, .int other, .ref ou] (z_un C9 B) (w_P G x pa sp ln rf sb ou B (z_lt (t_2 pane other) 1) u ((s_kin u pane.toNatClampNeg other.toNatClampNeg, u))) := by
  obtain ⟨P, RA, VA, hC⟩ := hC
  refine z_Hi_of _ rfl rfl (Nat.le_of_ble_eq_true rfl) (fun X hl hG C T ret => ?_)
  subst hl; subst hG
  have C : z_C X cL_isKin RL 5 (z_rm 13 8 48) := C
  show z_W X (z_un C9 B) 0 0 0 [(0, .ref x), (1, .int pane), (2, .int other), (3, .ref ou)] []
  refine z_aload_n C dL_isKin_0 rfl 3 rfl ?_
  refine z_aload_n C dL_isKin_1 rfl 0 rfl ?_
  refine z_iload_n C dL_isKin_2 rfl 1 rfl ?_
  refine z_iload_n C dL_isKin_3 rfl 2 rfl ?_
  refine z_callXVi (rest := [.ref ou]) (k' := 8) (n' := 48) C (z_Xi_fr hd (a_X3_isKin (z_l X) h_st hC hok pane other)) (cs_L_127 C ⟨Nat.le_of_ble_eq_true rfl, Nat.le_of_ble_eq_true rfl⟩) (z_un_l hC.1) rfl rfl rfl rfl (Nat.le_of_ble_eq_true rfl) rfl rfl (Nat.le_of_ble_eq_true rfl) (Nat.le_of_ble_eq_true rfl) dL_isKin_4 (fun E9 M9 hq => ?_) (fun x9 M9 hq => ?_)
  · obtain ⟨A9, ⟨hcx, hC9⟩, hd9, rfl⟩ := hq
    rcases hcx with ⟨hk9, rfl⟩ | ⟨hk9, rfl⟩
    · refine z_catch C T [] ⟨0, 11, 14, 19⟩ _ rfl (fun z hz => absurd hz List.not_mem_nil) rfl (by decide) kw693 (z_cI C) (fun qx => ?_)
      show z_W X (z_un A9 B) 8 48 14 [(0, .ref x), (1, .int pane), (2, .int other), (3, .ref ou)] [.ref qx]
      refine z_astore (lv' := [(4, .ref qx), (0, .ref x), (1, .int pane), (2, .int other), (3, .ref ou)]) C dL_isKin_14 (by decide) rfl ?_
      refine z_iconst C (v := 1) dL_isKin_16 (by decide) ?_
      refine ret dL_isKin_17 rfl ?_ (Nat.le_of_ble_eq_true rfl) (Nat.le_of_ble_eq_true rfl)
      exact w_th hC9 hd9 ho hk9 (by decide)
    · exact absurd hk9 z_lt1
  · obtain ⟨A9, ⟨hk9, hr9, hC9⟩, hd9, rfl⟩ := hq
    refine z_i2l C dL_isKin_7 ?_
    refine pf_L_13 C (z_un_r hd9 ho) dL_isKin_8 ?_
    refine z_goto C (tgt := 18) dL_isKin_11 (by decide) ?_
    refine z_iconst C (v := 0) dL_isKin_18 (by decide) ?_
    refine ret dL_isKin_19 rfl ?_ (Nat.le_of_ble_eq_true rfl) (Nat.le_of_ble_eq_true rfl)
    exact w_ok hC9 hd9 ho hk9 hr9
set_option maxRecDepth 20000 in
theorem w_sees (l : Launch) (h_st : l.stackTraces = false) {G : zG} {u : sS} {x pa sp ln rf sb ou t : Nat} {C9 B : zM} {on : Int64} {os : Option Nat} (hC : s_CI G x pa sp ln rf sb u C9) (hd : z_dj C9 B) (ho : B ou = some (cOu on os)) (hok : s_ok t u) (pane a2 other : Int32) : z_Hi l G qL_sees [(0, 13, 16, 19)] (z_rm 13 8 48) [.ref x, .int pane, .int a2, .int other, .ref ou] (z_un C9 B) (w_P G x pa sp ln rf sb ou B (z_lt (t_2 pane other) 1) u ((s_sees u pane.toNatClampNeg a2 other.toNatClampNeg, u))) := by
  obtain ⟨P, RA, VA, hC⟩ := hC
  refine z_Hi_of _ rfl rfl (Nat.le_of_ble_eq_true rfl) (fun X hl hG C T ret => ?_)
  subst hl; subst hG
  have C : z_C X cL_sees RL 6 (z_rm 13 8 48) := C
  show z_W X (z_un C9 B) 0 0 0 [(0, .ref x), (1, .int pane), (2, .int a2), (3, .int other), (4, .ref ou)] []
  refine z_aload C dL_sees_0 4 rfl ?_
  refine z_aload_n C dL_sees_2 rfl 0 rfl ?_
  refine z_iload_n C dL_sees_3 rfl 1 rfl ?_
  refine z_iload_n C dL_sees_4 rfl 2 rfl ?_
  refine z_iload_n C dL_sees_5 rfl 3 rfl ?_
  refine z_callXVi (rest := [.ref ou]) (k' := 8) (n' := 48) C (z_Xi_fr hd (a_X3_sees (z_l X) h_st hC hok pane a2 other)) (cs_L_130 C ⟨Nat.le_of_ble_eq_true rfl, Nat.le_of_ble_eq_true rfl⟩) (z_un_l hC.1) rfl rfl rfl rfl (Nat.le_of_ble_eq_true rfl) rfl rfl (Nat.le_of_ble_eq_true rfl) (Nat.le_of_ble_eq_true rfl) dL_sees_6 (fun E9 M9 hq => ?_) (fun x9 M9 hq => ?_)
  · obtain ⟨A9, ⟨hcx, hC9⟩, hd9, rfl⟩ := hq
    rcases hcx with ⟨hk9, rfl⟩ | ⟨hk9, rfl⟩
    · refine z_catch C T [] ⟨0, 13, 16, 19⟩ _ rfl (fun z hz => absurd hz List.not_mem_nil) rfl (by decide) kw693 (z_cI C) (fun qx => ?_)
      show z_W X (z_un A9 B) 8 48 16 [(0, .ref x), (1, .int pane), (2, .int a2), (3, .int other), (4, .ref ou)] [.ref qx]
      refine z_astore (lv' := [(5, .ref qx), (0, .ref x), (1, .int pane), (2, .int a2), (3, .int other), (4, .ref ou)]) C dL_sees_16 (by decide) rfl ?_
      refine z_iconst C (v := 1) dL_sees_18 (by decide) ?_
      refine ret dL_sees_19 rfl ?_ (Nat.le_of_ble_eq_true rfl) (Nat.le_of_ble_eq_true rfl)
      exact w_th hC9 hd9 ho hk9 (by decide)
    · exact absurd hk9 z_lt1
  · obtain ⟨A9, ⟨hk9, hr9, hC9⟩, hd9, rfl⟩ := hq
    refine z_i2l C dL_sees_9 ?_
    refine pf_L_13 C (z_un_r hd9 ho) dL_sees_10 ?_
    refine z_goto C (tgt := 20) dL_sees_13 (by decide) ?_
    refine z_iconst C (v := 0) dL_sees_20 (by decide) ?_
    refine ret dL_sees_21 rfl ?_ (Nat.le_of_ble_eq_true rfl) (Nat.le_of_ble_eq_true rfl)
    exact w_ok hC9 hd9 ho hk9 hr9
set_option maxRecDepth 20000 in
theorem w_would (l : Launch) (h_st : l.stackTraces = false) {G : zG} {u : sS} {x pa sp ln rf sb ou t : Nat} {C9 B : zM} {on : Int64} {os : Option Nat} (hC : s_CI G x pa sp ln rf sb u C9) (hd : z_dj C9 B) (ho : B ou = some (cOu on os)) (hok : s_ok t u) (pane a2 : Int32) : z_Hi l G qL_would [(0, 11, 14, 19), (0, 11, 18, 21)] (z_rm 13 8 48) [.ref x, .int pane, .int a2, .ref ou] (z_un C9 B) (w_P G x pa sp ln rf sb ou B (z_lt (z_is pane 0 5) (z_is a2 0 3)) u ((s_would u pane.toNatClampNeg a2, u))) := by
  obtain ⟨P, RA, VA, hC⟩ := hC
  refine z_Hi_of _ rfl rfl (Nat.le_of_ble_eq_true rfl) (fun X hl hG C T ret => ?_)
  subst hl; subst hG
  have C : z_C X cL_would RL 5 (z_rm 13 8 48) := C
  show z_W X (z_un C9 B) 0 0 0 [(0, .ref x), (1, .int pane), (2, .int a2), (3, .ref ou)] []
  refine z_aload_n C dL_would_0 rfl 3 rfl ?_
  refine z_aload_n C dL_would_1 rfl 0 rfl ?_
  refine z_iload_n C dL_would_2 rfl 1 rfl ?_
  refine z_iload_n C dL_would_3 rfl 2 rfl ?_
  refine z_callXVi (rest := [.ref ou]) (k' := 8) (n' := 48) C (z_Xi_fr hd (a_X3_would (z_l X) h_st hC hok pane a2)) (cs_L_133 C ⟨Nat.le_of_ble_eq_true rfl, Nat.le_of_ble_eq_true rfl⟩) (z_un_l hC.1) rfl rfl rfl rfl (Nat.le_of_ble_eq_true rfl) rfl rfl (Nat.le_of_ble_eq_true rfl) (Nat.le_of_ble_eq_true rfl) dL_would_4 (fun E9 M9 hq => ?_) (fun x9 M9 hq => ?_)
  · obtain ⟨A9, ⟨hcx, hC9⟩, hd9, rfl⟩ := hq
    rcases hcx with ⟨hk9, rfl⟩ | ⟨hk9, rfl⟩
    · refine z_catch C T [] ⟨0, 11, 14, 19⟩ _ rfl (fun z hz => absurd hz List.not_mem_nil) rfl (by decide) kw693 (z_cI C) (fun qx => ?_)
      show z_W X (z_un A9 B) 8 48 14 [(0, .ref x), (1, .int pane), (2, .int a2), (3, .ref ou)] [.ref qx]
      refine z_astore (lv' := [(4, .ref qx), (0, .ref x), (1, .int pane), (2, .int a2), (3, .ref ou)]) C dL_would_14 (by decide) rfl ?_
      refine z_iconst C (v := 1) dL_would_16 (by decide) ?_
      refine ret dL_would_17 rfl ?_ (Nat.le_of_ble_eq_true rfl) (Nat.le_of_ble_eq_true rfl)
      exact w_th hC9 hd9 ho hk9 (by decide)
    · refine z_catch C T [⟨0, 11, 14, 19⟩] ⟨0, 11, 18, 21⟩ _ rfl (fun z hz => by rw [List.mem_singleton.mp hz]; exact Or.inr ⟨by decide, _, kw693, z_pasA C⟩) rfl (by decide) kw694 (z_cA C) (fun qx => ?_)
      show z_W X (z_un A9 B) 8 48 18 [(0, .ref x), (1, .int pane), (2, .int a2), (3, .ref ou)] [.ref qx]
      refine z_astore (lv' := [(4, .ref qx), (0, .ref x), (1, .int pane), (2, .int a2), (3, .ref ou)]) C dL_would_18 (by decide) rfl ?_
      refine z_iconst C (v := 2) dL_would_20 (by decide) ?_
      refine ret dL_would_21 rfl ?_ (Nat.le_of_ble_eq_true rfl) (Nat.le_of_ble_eq_true rfl)
      exact w_th hC9 hd9 ho hk9 (by decide)
  · obtain ⟨A9, ⟨hk9, hr9, hC9⟩, hd9, rfl⟩ := hq
    refine z_i2l C dL_would_7 ?_
    refine pf_L_13 C (z_un_r hd9 ho) dL_would_8 ?_
    refine z_goto C (tgt := 22) dL_would_11 (by decide) ?_
    refine z_iconst C (v := 0) dL_would_22 (by decide) ?_
    refine ret dL_would_23 rfl ?_ (Nat.le_of_ble_eq_true rfl) (Nat.le_of_ble_eq_true rfl)
    exact w_ok hC9 hd9 ho hk9 hr9
set_option maxRecDepth 20000 in
theorem w_house (l : Launch) (h_st : l.stackTraces = false) {G : zG} {u : sS} {x pa sp ln rf sb ou t : Nat} {C9 B : zM} {on : Int64} {os : Option Nat} (hC : s_CI G x pa sp ln rf sb u C9) (hd : z_dj C9 B) (ho : B ou = some (cOu on os)) (hok : s_ok t u) (a1 : Int32) : z_Hi l G qL_house [(0, 10, 13, 21)] (z_rm 13 8 48) [.ref x, .int a1, .ref ou] (z_un C9 B) (w_P G x pa sp ln rf sb ou B (z_lt (z_is a1 0 8) 1) u ((s_house u a1, u))) := by
  obtain ⟨P, RA, VA, hC⟩ := hC
  refine z_Hi_of _ rfl rfl (Nat.le_of_ble_eq_true rfl) (fun X hl hG C T ret => ?_)
  subst hl; subst hG
  have C : z_C X cL_house RL 4 (z_rm 13 8 48) := C
  show z_W X (z_un C9 B) 0 0 0 [(0, .ref x), (1, .int a1), (2, .ref ou)] []
  refine z_aload_n C dL_house_0 rfl 2 rfl ?_
  refine z_aload_n C dL_house_1 rfl 0 rfl ?_
  refine z_iload_n C dL_house_2 rfl 1 rfl ?_
  refine z_callXVi (rest := [.ref ou]) (k' := 8) (n' := 48) C (z_Xi_fr hd (a_X3_house (z_l X) h_st hC hok a1)) (cs_L_136 C ⟨Nat.le_of_ble_eq_true rfl, Nat.le_of_ble_eq_true rfl⟩) (z_un_l hC.1) rfl rfl rfl rfl (Nat.le_of_ble_eq_true rfl) rfl rfl (Nat.le_of_ble_eq_true rfl) (Nat.le_of_ble_eq_true rfl) dL_house_3 (fun E9 M9 hq => ?_) (fun x9 M9 hq => ?_)
  · obtain ⟨A9, ⟨⟨hk9, rfl⟩, hC9⟩, hd9, rfl⟩ := hq
    refine z_catch C T [] ⟨0, 10, 13, 21⟩ _ rfl (fun z hz => absurd hz List.not_mem_nil) rfl (by decide) kw694 (z_cA C) (fun qx => ?_)
    show z_W X (z_un A9 B) 8 48 13 [(0, .ref x), (1, .int a1), (2, .ref ou)] [.ref qx]
    refine z_astore_n (lv' := [(3, .ref qx), (0, .ref x), (1, .int a1), (2, .ref ou)]) C dL_house_13 rfl (by decide) rfl ?_
    refine z_iconst C (v := 1) dL_house_14 (by decide) ?_
    refine ret dL_house_15 rfl ?_ (Nat.le_of_ble_eq_true rfl) (Nat.le_of_ble_eq_true rfl)
    exact w_th hC9 hd9 ho hk9 (by decide)
  · obtain ⟨A9, ⟨hk9, hr9, hC9⟩, hd9, rfl⟩ := hq
    refine z_i2l C dL_house_6 ?_
    refine pf_L_13 C (z_un_r hd9 ho) dL_house_7 ?_
    refine z_goto C (tgt := 16) dL_house_10 (by decide) ?_
    refine z_iconst C (v := 0) dL_house_16 (by decide) ?_
    refine ret dL_house_17 rfl ?_ (Nat.le_of_ble_eq_true rfl) (Nat.le_of_ble_eq_true rfl)
    exact w_ok hC9 hd9 ho hk9 hr9
