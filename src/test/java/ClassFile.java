import java.io.DataInputStream;
import java.io.IOException;
import java.io.InputStream;
import java.util.LinkedHashMap;
import java.util.LinkedHashSet;
import java.util.Map;
import java.util.Set;

/** What a compiled class calls, method by method: each by its owner, name and descriptor. */
final class ClassFile {
  private static final int INVOKE_VIRTUAL = 182, INVOKE_INTERFACE = 185, INVOKE_DYNAMIC = 186;
  private static final int TABLE_SWITCH = 170, LOOKUP_SWITCH = 171, IINC = 132, WIDE = 196;
  /** Opcodes of one length in a row: the last of them, and how many bytes each takes. */
  private static final int[][] LENGTHS = {{15, 1}, {16, 2}, {17, 3}, {18, 2}, {20, 3}, {25, 2}, {53, 1}, {58, 2}, {131, 1}, {132, 3}, {152, 1}, {168, 3},
      {169, 2}, {177, 1}, {184, 3}, {186, 5}, {187, 3}, {188, 2}, {189, 3}, {191, 1}, {193, 3}, {195, 1}, {197, 4}, {199, 3}, {201, 5}};

  final Map<String, Set<String>> calls = new LinkedHashMap<>();
  private final DataInputStream in;
  private final String name;
  private Object[] pool;

  ClassFile(Class<?> type) throws IOException {
    name = type.getName();
    try (InputStream file = type.getResourceAsStream("/" + name + ".class")) {
      in = new DataInputStream(new java.io.ByteArrayInputStream(file.readAllBytes()));
    }
    in.skipBytes(8);
    readPool();
    in.skipBytes(6);
    in.skipBytes(2 * in.readUnsignedShort());
    readMembers(false);
    readMembers(true);
  }

  private void readPool() throws IOException {
    pool = new Object[in.readUnsignedShort()];
    for (int i = 1; i < pool.length; i++) {
      int tag = in.readUnsignedByte();
      switch (tag) {
        case 1: pool[i] = in.readUTF(); break;
        case 3: case 4: in.readInt(); break;
        case 5: case 6: in.readLong(); i++; break;
        case 7: case 8: case 16: case 19: case 20: pool[i] = new int[] {in.readUnsignedShort()}; break;
        case 15: in.skipBytes(3); break;
        default: pool[i] = new int[] {in.readUnsignedShort(), in.readUnsignedShort()}; break;
      }
    }
  }

  private String text(int i) { return (String) pool[i]; }

  private int at(int i, int which) { return ((int[]) pool[i])[which]; }

  private void readMembers(boolean methods) throws IOException {
    int n = in.readUnsignedShort();
    for (int i = 0; i < n; i++) {
      in.skipBytes(2);
      String member = name + "." + text(in.readUnsignedShort()) + text(in.readUnsignedShort());
      if (methods) calls.put(member, new LinkedHashSet<>());
      int attributes = in.readUnsignedShort();
      for (int a = 0; a < attributes; a++) {
        String kind = text(in.readUnsignedShort());
        byte[] body = new byte[in.readInt()];
        in.readFully(body);
        if (methods && kind.equals("Code")) readCode(body, calls.get(member));
      }
    }
  }

  private static int number(byte[] b, int at, int bytes) {
    int v = 0;
    for (int i = 0; i < bytes; i++) v = v << 8 | b[at + i] & 255;
    return v;
  }

  private void readCode(byte[] body, Set<String> found) {
    int from = 8, to = from + number(body, 4, 4);
    for (int at = from; at < to; at += length(body, at, from)) {
      int op = body[at] & 255;
      if (op == INVOKE_DYNAMIC) found.add("at run time");
      else if (op >= INVOKE_VIRTUAL && op <= INVOKE_INTERFACE) found.add(called(number(body, at + 1, 2)));
    }
  }

  private String called(int method) {
    int what = at(method, 1);
    return text(at(at(method, 0), 0)) + "." + text(at(what, 0)) + text(at(what, 1));
  }

  private static int length(byte[] b, int at, int from) {
    int op = b[at] & 255;
    int padding = 3 - (at - from) % 4;
    if (op == TABLE_SWITCH) return 1 + padding + 12 + 4 * (number(b, at + 1 + padding + 8, 4) - number(b, at + 1 + padding + 4, 4) + 1);
    if (op == LOOKUP_SWITCH) return 1 + padding + 8 + 8 * number(b, at + 1 + padding + 4, 4);
    if (op == WIDE) return (b[at + 1] & 255) == IINC ? 6 : 4;
    for (int[] row : LENGTHS) if (op <= row[0]) return row[1];
    throw new IllegalStateException("opcode " + op);
  }
}
