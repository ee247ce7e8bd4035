import java.io.IOException;
import java.nio.file.Files;
import java.nio.file.Path;
import java.util.List;

/** What README.md has behind a call is what the call answers. */
public final class ReadmeTest {
    private static List<String> lines;

    private static void says(String call, Object answer) {
        boolean isThere = false;
        for (String line : lines) {
            isThere |= line.matches("\\Q" + call + "\\E; +// \\Q" + answer + "\\E([: ].*)?");
        }
        Trial.is("README.md has " + call + " with " + answer, true, isThere);
    }

    private static void sittings(DarkSitting x) {
        x.person(0, 0);
        x.person(2, 60);
        x.feed(0x686f6c64, 0x20302062, 0x7920313b, 0x6c617374, 0x20343000);
        x.end(19);
        int rule = x.rule();
        x.feed(0x66726565, 0x20303b74, 0x616b6520, 0x35000000, 0);
        x.end(13);
        int way = x.way();
        int thing = x.thing(1, 0, 0);
        says("x.earliest(rule, 1 << way, false, thing)", x.earliest(rule, 1 << way, false, thing));
        says("x.may(rule, 1 << way, false, 39)", x.may(rule, 1 << way, false, 39));
        x.note(thing, 20);
        says("x.can(rule, 0, false)", x.can(rule, 0, false));
        says("x.fewest(rule, false)", x.fewest(rule, false));
        int trap = x.trap(way, 8, 2);
        int used = x.story(1, 1 << way, DarkSitting.NONE);
        x.story(1, 0, DarkSitting.NONE);
        x.night(rule, 0b11, 1 << thing, 1 << trap, 1 << trap);
        says("x.factor(used, 0)", x.factor(used, 0));
        says("x.odds(used)", x.odds(used));
        says("x.oddsBy(used, 0)", x.oddsBy(used, 0));
        says("x.says(trap)", x.says(trap));
    }

    private static void theRest(DarkSitting x) {
        x.knew(0b10);
        x.told(1, 0, 5);
        says("x.knows(5)", x.knows(5));
        says("x.whence(5, true)", x.whence(5, true));
        x.rope(5);
        x.knot(10, 20, 5, 3);
        x.knot(4, 6, 8, 2);
        says("x.out(0b10, false)", x.out(0b10, false));
        says("x.out(0b10, true)", x.out(0b10, true));
        says("x.first(0b10)", x.first(0b10));
        says("x.tale(10, 10, 2)", x.tale(10, 10, 2));
        says("x.cold(0b1, 10, 4)", x.cold(0b1, 10, 4));
        x.image();
        says("x.torn()", x.torn());
        says("x.back()", x.back());
        says("x.count(4)", x.count(4));
    }

    public static void main(String[] args) throws IOException {
        lines = Files.readAllLines(Path.of("README.md"));
        DarkSitting x = new DarkSitting();
        sittings(x);
        theRest(x);
        Trial.ends("ReadmeTest");
    }
}
