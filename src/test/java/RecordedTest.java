import java.io.IOException;
import java.nio.file.Files;
import java.nio.file.Path;

/** Promises 4, 6, 7, 8 and 9 on recorded runs, whose answers two other, plainer programs worked out. */
public final class RecordedTest {
    private static final String[] FILES = {"src/test/data/runs.txt", "src/test/data/models.txt"};

    public static void main(String[] args) throws IOException {
        for (String file : FILES) {
            compareAll(file);
        }
        House.close();
    }

    private static void compareAll(String file) throws IOException {
        House h = new House();
        int number = 0;
        for (String text : Files.readAllLines(Path.of(file))) {
            number++;
            String line = file + ", line " + number;
            String[] row = text.split(" ");
            switch (row[0]) {
                case "house":
                    h = new House();
                    break;
                case "fuel":
                    h.house.fuel(Integer.parseInt(row[1]));
                    break;
                case "end":
                    due(line, "end", h.give(Integer.parseInt(row[1]), bytes(row[2])), row[3]);
                    break;
                default:
                    due(line, "answer", h.give(18, bytes(row[1])), row[2]);
                    compare(line, h.house, row);
                    break;
            }
        }
    }

    private static byte[] bytes(String hex) {
        byte[] b = new byte[hex.length() / 2];
        for (int i = 0; i < b.length; i++) {
            b[i] = (byte) Integer.parseInt(hex.substring(2 * i, 2 * i + 2), 16);
        }
        return b;
    }

    private static void due(String line, String what, long got, String want) {
        House.due(line + ", " + what, got, Long.parseLong(want));
    }

    private static void compare(String line, TypeHouse house, String[] row) {
        for (int i = 0; i < 8; i++) {
            due(line, "about " + i, house.about(i), row[3 + i]);
        }
        long counts = 0;
        for (int k = 0; k < 256; k++) {
            counts = 31 * counts + house.count(k);
        }
        due(line, "the counters together", counts, row[11]);
        due(line, "size", house.size(), row[12]);
        long file = 0;
        for (int i = 0; i < house.size(); i++) {
            file = 31 * file + house.out(i);
        }
        due(line, "the file's bytes together", file, row[13]);
    }
}
