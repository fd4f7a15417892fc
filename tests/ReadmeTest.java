import java.io.IOException;
import java.nio.charset.StandardCharsets;
import java.nio.file.Files;
import java.nio.file.Path;

/** What README.md tells of the use: each call of its example, and what an act that can't be answers. */
public final class ReadmeTest {
    private static final StringBuilder README = new StringBuilder();

    // The line must stand in README.md, so that what is tried here and what is told there stay the same.
    private static void told(String line, long got, long want) {
        if (README.indexOf(line) < 0) {
            Due.fault("README.md doesn't tell: " + line);
        }
        Due.due("README.md: " + line, got, want);
    }

    private static void example() {
        OysterSecrets estuary = new OysterSecrets();
        int dear = estuary.oyster(5, 0);
        told("int dear = estuary.oyster(5, 0);     // a dear one in bed 0: its number, 0", dear, 0);
        told("estuary.change(dear, 2, 70);         // its secret weighs 70; it weighed 10",
            estuary.change(dear, 2, 70), 10);
        told("estuary.go(10);                      // ten years: 60 layers in all", estuary.go(10), 60);
        told("estuary.hidden(dear);                // it will be hidden in 1 year", estuary.hidden(dear), 1);
        told("estuary.worth(dear, 10);             // what it will be worth in ten years: 390",
            estuary.worth(dear, 10), 390);
        told("estuary.of(1, 3);                    // no such oyster: -1000001, BEYOND", estuary.of(1, 3), Due.BEYOND);
        told("estuary.undo();                      // no image is kept: -1000004, NONE", estuary.undo(), Due.NONE);
        told("estuary.status(-1);                  // two findings so far", estuary.status(-1), 2);
        told("estuary.status(0);                   // one of them BEYOND", estuary.status(0), 1);
        told("estuary.feed(0x706f6f72, 4);         // \"poor\": the tape has 4 bytes", estuary.feed(0x706f6f72, 4), 4);
        told("estuary.text();                      // 1 item: oyster 1 is a poor one in bed 0", estuary.text(), 1);
        Due.due("README.md: its kind", estuary.of(1, 0), 3);
        Due.due("README.md: its bed", estuary.of(1, 1), 0);
    }

    private static void findings() {
        OysterSecrets x = new OysterSecrets();
        for (int i = 0; i < 8; i++) {
            x.oyster(0, 0);
        }
        x.hold(0, 0);
        told("| -1000001 | BEYOND |", x.oyster(7, 0), Due.BEYOND);
        told("| -1000002 | FULL |", x.oyster(0, 0), Due.FULL);
        told("| -1000003 | KIND |", x.as(0, 1), Due.KIND);
        told("| -1000004 | NONE |", x.undo(), Due.NONE);
        for (int i = 0; i < 99999 / 60; i++) {
            x.go(60);
        }
        told("| -1000005 | STATE |", x.go(60), Due.STATE);
        told("| -1000006 | MISSING |", x.load(0), Due.MISSING);
        told("| -1000007 | SIZE |", x.sheet(0, 8, -1), Due.SIZE);
    }

    public static void main(String[] args) throws IOException {
        README.append(Files.readString(Path.of("README.md"), StandardCharsets.UTF_8));
        example();
        findings();
        Due.end();
    }
}
