import java.io.IOException;
import java.nio.file.Files;
import java.nio.file.Path;

/** The example of README.md, and that README.md has the answers that are due here. */
final class ReadmeTest {
    private static String readme = "";

    static void run(Checks c) {
        c.section("README.md");
        try {
            readme = Files.readString(Path.of("README.md"));
        } catch (IOException e) {
            c.fail("cannot read README.md");
            return;
        }
        PeatHearths peat = new PeatHearths();
        told(c, "peat.work(0, 0, 1);", peat.work(0, 0, 1), "1:");
        told(c, "peat.pass(20);", peat.pass(20), "62 turves");
        told(c, "peat.hearthOf(0, 2);", peat.hearthOf(0, 2), "58:");
        told(c, "peat.hearthOf(4, 2);", peat.hearthOf(4, 2), "4:");
        told(c, "peat.enoughIn(0);", peat.enoughIn(0), "31 more days");
        told(c, "peat.whyNot(1, 0, 0);", peat.whyNot(1, 0, 0), "1:");
        told(c, "peat.bestBank(1, 0);", peat.bestBank(1, 0), "2:");
        c.dueTrue("the text is told", readme.contains("\"r0;*;+5\".toCharArray()"));
        Calls.type(peat, "r0;*;+5");
        told(c, "peat.play();", peat.play(), "3 parts");
        told(c, "peat.count(0);", peat.count(0), "25:");
        c.due("undo()", peat.undo(), 2);
        c.dueTrue("undo is told", readme.contains("2 saved states are left"));
        told(c, "peat.count(0);", peat.count(0), "20");
    }

    /** The call answers the number that its comment begins with, and README.md has the call with this comment. */
    private static void told(Checks c, String call, long got, String comment) {
        c.due(call, got, Long.parseLong(comment.replaceAll("[^0-9].*", "")));
        boolean found = false;
        for (String line : readme.split("\n")) {
            found = found || line.startsWith(call) && line.contains("// " + comment);
        }
        c.dueTrue("README.md tells " + call + " // " + comment, found);
    }
}
