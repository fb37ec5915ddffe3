import java.nio.BufferOverflowException;
import java.nio.BufferUnderflowException;
import java.nio.IntBuffer;
import java.nio.InvalidMarkException;
import java.nio.ReadOnlyBufferException;

/** The document once more, built on IntBuffer: what the class answers is held against it. */
final class BufferModel {
  private final int[] longRow = new int[16];
  private final IntBuffer[] buffers = new IntBuffer[6];
  private final int[] counts = new int[7];

  BufferModel() {
    for (int i = 0; i < 6; i++) {
      buffers[i] = i < 4 ? IntBuffer.wrap(longRow) : IntBuffer.allocate(8);
    }
  }

  int wrap(int pane, int from, int many) {
    of(pane);
    within(from, 0, 16);
    within(many, 0, 16 - from);
    buffers[pane] = IntBuffer.wrap(longRow, from, many);
    return act(buffers[pane].limit());
  }

  int fresh(int pane, int length) {
    of(pane);
    within(length, 0, 12);
    buffers[pane] = IntBuffer.allocate(length);
    return act(length);
  }

  int twin(int pane, int other) {
    of(pane);
    buffers[pane] = of(other).duplicate();
    return act(buffers[pane].remaining());
  }

  int rest(int pane, int other) {
    of(pane);
    buffers[pane] = of(other).slice();
    return act(buffers[pane].limit());
  }

  int part(int pane, int other, int index, int many) {
    of(pane);
    IntBuffer o = of(other);
    if (index < 0 || index > o.limit() || many < 0 || many > o.limit() - index) {
      return refused(5);
    }
    buffers[pane] = o.slice(index, many);
    return act(many);
  }

  int reader(int pane, int other) {
    of(pane);
    buffers[pane] = of(other).asReadOnlyBuffer();
    return act(buffers[pane].remaining());
  }

  int exchange(int pane, int other) {
    IntBuffer kept = of(pane);
    buffers[pane] = of(other);
    buffers[other] = kept;
    return act(buffers[pane].position());
  }

  int go(int pane, int place) {
    IntBuffer b = of(pane);
    int before = b.position();
    return setPosition(b, place) ? act(before) : refused(5);
  }

  int move(int pane, int by) {
    IntBuffer b = of(pane);
    within(by, -20, 20);
    return setPosition(b, b.position() + by) ? act(b.position()) : refused(5);
  }

  int end(int pane, int place) {
    IntBuffer b = of(pane);
    int before = b.limit();
    return setLimit(b, place) ? act(before) : refused(5);
  }

  int stretch(int pane, int by) {
    IntBuffer b = of(pane);
    within(by, -20, 20);
    return setLimit(b, b.limit() + by) ? act(b.limit()) : refused(5);
  }

  int mark(int pane) {
    return act(of(pane).mark().position());
  }

  int back(int pane) {
    IntBuffer b = of(pane);
    int before = b.position();
    try {
      return act(before - b.reset().position());
    } catch (InvalidMarkException e) {
      return refused(3);
    }
  }

  int clear(int pane) {
    return act(of(pane).clear().remaining());
  }

  int flip(int pane) {
    return act(of(pane).flip().remaining());
  }

  int rewind(int pane) {
    return act(of(pane).rewind().remaining());
  }

  int put(int pane, int value) {
    IntBuffer b = of(pane);
    within(value, 0, Integer.MAX_VALUE);
    return tryPut(b, value) ? act(b.position()) : -9;
  }

  int putAt(int pane, int index, int value) {
    IntBuffer b = of(pane);
    within(value, 0, Integer.MAX_VALUE);
    return index < 0 || index >= b.limit() ? refused(5) : replace(b, index, value);
  }

  int bring(int pane, int index, int other, int from) {
    IntBuffer b = of(pane);
    IntBuffer o = of(other);
    if (from < 0 || from >= o.limit() || index < 0 || index >= b.limit()) {
      return refused(5);
    }
    return replace(b, index, o.get(from));
  }

  int fill(int pane, int first, int step, int many) {
    IntBuffer b = of(pane);
    within(first, 0, 1000000);
    within(step, 0, 1000000);
    within(many, 0, 20);
    for (int i = 0; i < many; i++) {
      if (!tryPut(b, first + i * step)) {
        return act(i);
      }
    }
    return act(many);
  }

  int pack(int pane) {
    try {
      return act(of(pane).compact().position());
    } catch (ReadOnlyBufferException e) {
      return refused(4);
    }
  }

  int pour(int pane, int other, int many) {
    IntBuffer b = of(pane);
    IntBuffer o = of(other);
    within(many, 0, 20);
    for (int i = 0; i < many; i++) {
      if (!b.hasRemaining()) {
        return act(i);
      }
      if (!tryPut(o, b.get())) {
        b.position(b.position() - 1);
        return act(i);
      }
    }
    return act(many);
  }

  int lay(int place, int value) {
    if (place < 0 || place > 15) {
      throw new IndexOutOfBoundsException();
    }
    within(value, 0, Integer.MAX_VALUE);
    return replace(IntBuffer.wrap(longRow), place, value);
  }

  int reach(int pane, int index, int value) {
    IntBuffer b = of(pane);
    within(value, 0, Integer.MAX_VALUE);
    if (b.isReadOnly()) {
      return refused(4);
    }
    return index < 0 || index >= b.capacity() ? refused(5) : replace(open(b), index, value);
  }

  int get(int pane) {
    try {
      return act(of(pane).get());
    } catch (BufferUnderflowException e) {
      return refused(2);
    }
  }

  int drain(int pane, int many) {
    IntBuffer b = of(pane);
    within(many, 0, 20);
    for (int i = 0; i < many; i++) {
      if (!b.hasRemaining()) {
        refused(2);
        return act(i);
      }
      b.get();
    }
    return act(many);
  }

  int pop(int pane) {
    IntBuffer b = of(pane);
    return setPosition(b, b.position() - 1) ? act(b.get(b.position())) : refused(5);
  }

  int ofPane(int pane, int what) {
    IntBuffer b = of(pane);
    within(what, 0, 9);
    int[] all = {b.position(), b.limit(), b.capacity(), b.remaining(), markOf(b),
        b.isReadOnly() ? -9 : b.arrayOffset(), b.hasRemaining() ? 1 : 0, b.isReadOnly() ? 1 : 0,
        b.hasArray() ? 1 : 0, b.capacity() - b.limit()};
    return all[what];
  }

  int at(int pane, int index) {
    IntBuffer b = of(pane);
    return index < 0 || index >= b.limit() ? -9 : b.get(index);
  }

  int peek(int pane) {
    IntBuffer b = of(pane);
    return b.hasRemaining() ? b.get(b.position()) : -9;
  }

  String total(int pane) {
    IntBuffer b = of(pane).duplicate();
    long sum = 0;
    while (b.hasRemaining()) {
      sum += b.get();
    }
    return Long.toString(sum);
  }

  String text(int pane) {
    return joined(of(pane).duplicate());
  }

  String whole(int pane) {
    IntBuffer b = of(pane);
    IntBuffer open = open(b);
    int mark = markOf(b);
    StringBuilder told = new StringBuilder();
    for (int i = 0; i <= b.capacity(); i++) {
      told.append(mark == i ? "|" : "").append(b.position() == i ? ">" : "");
      told.append(b.limit() == i ? "<" : "");
      if (i < b.capacity()) {
        told.append(open.get(i)).append(' ');
      }
    }
    return told.toString();
  }

  String row() {
    return joined(IntBuffer.wrap(longRow));
  }

  int isKin(int pane, int other) {
    IntBuffer b = of(pane);
    IntBuffer o = of(other);
    if (b.isReadOnly() || o.isReadOnly()) {
      return -9;
    }
    return b.array() == o.array() ? 1 : 0;
  }

  int sees(int pane, int index, int other) {
    int kin = isKin(pane, other);
    if (kin != 1) {
      return kin == 0 ? -1 : -9;
    }
    long there = (long) index + of(pane).arrayOffset() - of(other).arrayOffset();
    boolean mine = index >= 0 && index < of(pane).capacity();
    return mine && there >= 0 && there < of(other).capacity() ? (int) there : -1;
  }

  int would(int pane, int what) {
    IntBuffer b = of(pane).duplicate();
    within(what, 0, 3);
    if (what == 3) {
      return markOf(b) < 0 ? -9 : b.reset().remaining();
    }
    return what == 0 ? b.clear().remaining()
        : what == 1 ? b.flip().remaining() : b.rewind().remaining();
  }

  int house(int what) {
    within(what, 0, 8);
    if (what < 7) {
      return counts[what];
    }
    int sum = 0;
    for (IntBuffer b : buffers) {
      sum += (what == 7 ? b.isReadOnly() : markOf(b) >= 0) ? 1 : 0;
    }
    return sum;
  }

  int knock() {
    return ++counts[6];
  }

  boolean isSound() {
    return true;
  }

  long digest() {
    long d = 8017;
    for (int what = 0; what <= 8; what++) {
      d = d * 31 + house(what);
    }
    for (int pane = 0; pane < 6; pane++) {
      for (int what = 0; what <= 9; what++) {
        d = d * 31 + ofPane(pane, what);
      }
      d = ofText(ofText(d, whole(pane)), total(pane));
    }
    for (int pane = 0; pane < 6; pane++) {
      d = d * 31 + isKin(pane, (pane + 1) % 6);
      d = d * 31 + sees(pane, 0, (pane + 1) % 6);
    }
    return ofText(d, row()) * 31 + 1;
  }

  private static long ofText(long before, String text) {
    long d = before;
    for (char sign : text.toCharArray()) {
      d = d * 31 + sign;
    }
    return d;
  }

  private IntBuffer of(int pane) {
    if (pane < 0 || pane > 5) {
      throw new IndexOutOfBoundsException();
    }
    return buffers[pane];
  }

  private static void within(int number, int least, int most) {
    if (number < least || number > most) {
      throw new IllegalArgumentException();
    }
  }

  private int act(int answer) {
    counts[0]++;
    return answer;
  }

  private int refused(int kind) {
    counts[kind]++;
    return -9;
  }

  private static boolean setPosition(IntBuffer b, int place) {
    if (place < 0 || place > b.limit()) {
      return false;
    }
    b.position(place);
    return true;
  }

  private static boolean setLimit(IntBuffer b, int place) {
    if (place < 0 || place > b.capacity()) {
      return false;
    }
    b.limit(place);
    return true;
  }

  private boolean tryPut(IntBuffer b, int value) {
    try {
      b.put(value);
      return true;
    } catch (ReadOnlyBufferException e) {
      refused(4);
    } catch (BufferOverflowException e) {
      refused(1);
    }
    return false;
  }

  private int replace(IntBuffer b, int index, int value) {
    if (b.isReadOnly()) {
      return refused(4);
    }
    int before = b.get(index);
    b.put(index, value);
    return act(before);
  }

  private static IntBuffer open(IntBuffer b) {
    return b.duplicate().clear();
  }

  private static int markOf(IntBuffer b) {
    try {
      return b.duplicate().reset().position();
    } catch (InvalidMarkException e) {
      return -1;
    }
  }

  private static String joined(IntBuffer b) {
    StringBuilder told = new StringBuilder();
    String between = "";
    while (b.hasRemaining()) {
      told.append(between).append(b.get());
      between = " ";
    }
    return told.toString();
  }
}
