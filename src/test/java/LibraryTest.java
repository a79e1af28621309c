import java.io.DataInputStream;
import java.io.IOException;
import java.util.ArrayList;
import java.util.List;
import java.util.Set;
import java.util.TreeSet;

/** Rule 4 of LANGUAGE.md, from the compiled class: what it calls of the library is on the rule's list. */
public final class LibraryTest {
    private static final Set<String> ALLOWED = Set.of(
        "java/lang/Object.<init>", "java/lang/System.arraycopy",
        "java/lang/String.length", "java/lang/String.charAt", "java/lang/String.isEmpty", "java/lang/String.equals",
        "java/lang/Long.bitCount", "java/lang/Integer.bitCount",
        "java/lang/Math.abs", "java/lang/Math.max", "java/lang/Math.min");
    private static final Due due = new Due("LibraryTest");

    private LibraryTest() {
    }

    public static void main(String[] args) throws IOException {
        List<Class<?>> all = new ArrayList<>(List.of(TrueMaps.class.getDeclaredClasses()));
        all.add(TrueMaps.class);
        Set<String> found = new TreeSet<>();
        for (Class<?> type : all) {
            found.addAll(membersUsedBy(type));
        }
        due.holds("what is used is seen: " + found, found.contains("java/lang/Object.<init>"));
        for (String member : found) {
            due.holds(member + " is allowed", ALLOWED.contains(member));
        }
        due.end();
    }

    private static Set<String> membersUsedBy(Class<?> type) throws IOException {
        try (DataInputStream in = new DataInputStream(type.getResourceAsStream(type.getName() + ".class"))) {
            in.skipBytes(8);
            return new Constants(in).membersOfTheLibrary();
        }
    }

    /** The constants of a class file, as far as they name what is called. */
    private static final class Constants {
        private final int[] tags;
        private final int[] firsts;
        private final int[] seconds;
        private final String[] texts;

        Constants(DataInputStream in) throws IOException {
            int count = in.readUnsignedShort();
            tags = new int[count];
            firsts = new int[count];
            seconds = new int[count];
            texts = new String[count];
            for (int i = 1; i < count; i++) {
                read(in, i);
                // Longs and doubles take two places.
                if (tags[i] == 5 || tags[i] == 6) {
                    i++;
                }
            }
        }

        private void read(DataInputStream in, int i) throws IOException {
            tags[i] = in.readUnsignedByte();
            switch (tags[i]) {
                case 1 -> texts[i] = in.readUTF();
                case 3, 4 -> in.readInt();
                case 5, 6 -> in.readLong();
                case 7, 8, 16, 19, 20 -> firsts[i] = in.readUnsignedShort();
                case 9, 10, 11, 12, 17, 18 -> {
                    firsts[i] = in.readUnsignedShort();
                    seconds[i] = in.readUnsignedShort();
                }
                case 15 -> {
                    in.readUnsignedByte();
                    in.readUnsignedShort();
                }
                default -> throw new IOException("constant of kind " + tags[i]);
            }
        }

        Set<String> membersOfTheLibrary() {
            Set<String> members = new TreeSet<>();
            for (int i = 1; i < tags.length; i++) {
                if (tags[i] == 9 || tags[i] == 10 || tags[i] == 11) {
                    String owner = texts[firsts[firsts[i]]];
                    if (!owner.equals("TrueMaps") && !owner.startsWith("TrueMaps$")) {
                        members.add(owner + "." + texts[firsts[seconds[i]]]);
                    }
                } else if (tags[i] == 17 || tags[i] == 18) {
                    members.add("something made as it runs (a lambda, texts joined by +)");
                }
            }
            return members;
        }
    }
}
