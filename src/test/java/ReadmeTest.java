import java.nio.ByteBuffer;
import java.nio.charset.StandardCharsets;
import java.util.Arrays;

/** What README.md tells of the class is so. */
public final class ReadmeTest {
    public static void main(String[] args) {
        SlabWalk x = new SlabWalk();
        tell(x, "street s joint 1 5 5 red 5; walker w foot 2 step 3 to 5; rule r red;");
        Due.due("pavement()", x.pavement(), 1);
        Due.due("fewest(0, 0, 0, 0)", x.fewest(0, 0, 0, 0), 3);
        Due.lie("fewest(0, 0, 0, 0)", x, 2, 7, 12);
        Due.due("fewest(0, 0, 1, 0)", x.fewest(0, 0, 1, 0), SlabWalk.NONE);
        Due.due("walk(0, 0, 3)", x.walk(0, 0, 3), 1);
        Due.due("go(3)", x.go(3), 1);
        Due.due("walker(2)", x.walker(2), 6);
        Due.due("undo()", x.undo(), true);
        Due.due("walker(2)", x.walker(2), 3);
        Due.finish();
    }

    private static void tell(SlabWalk x, String text) {
        byte[] bytes = text.getBytes(StandardCharsets.ISO_8859_1);
        ByteBuffer tape = ByteBuffer.wrap(Arrays.copyOf(bytes, (bytes.length + 19) / 20 * 20));
        while (tape.hasRemaining()) {
            x.feed(tape.getInt(), tape.getInt(), tape.getInt(), tape.getInt(), tape.getInt());
        }
        x.end(bytes.length);
    }
}
