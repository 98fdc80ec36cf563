import java.io.IOException;
import java.nio.file.Files;
import java.nio.file.Path;
import java.util.ArrayList;
import java.util.List;
import java.util.regex.Matcher;
import java.util.regex.Pattern;

/** The answers that README.md tells, call by call in its order. Run from the project's root. */
public final class ReadmeTest {
    private static final Due D = new Due("ReadmeTest");
    private static final Pattern TOLD = Pattern.compile("house\\.(\\w+\\(.*\\)); *// (-?\\d+).*");

    private final List<Matcher> lines = new ArrayList<>();
    private int asked = 0;

    public static void main(String[] args) throws IOException {
        ReadmeTest test = new ReadmeTest();
        for (String line : Files.readAllLines(Path.of("README.md"))) {
            Matcher told = TOLD.matcher(line);
            if (told.matches()) {
                test.lines.add(told);
            }
        }
        SaddleHouse house = new SaddleHouse();
        test.backsAndTrees(house);
        test.fits(house);
        test.theRest(house);
        D.due("each call on the page is asked", test.asked, test.lines.size());
        D.end();
    }

    private void told(String call, long answer) {
        boolean isThere = asked < lines.size() && lines.get(asked).group(1).equals(call);
        D.due(call + " is call " + asked + " on the page", isThere ? 1 : 0, 1);
        if (isThere) {
            D.due(call, answer, Long.parseLong(lines.get(asked).group(2)));
        }
        asked++;
    }

    private void backsAndTrees(SaddleHouse x) {
        told("horse()", x.horse());
        told("height(4, 108)", x.height(4, 108));
        told("height(6, SaddleHouse.NONE)", x.height(6, SaddleHouse.NONE));
        told("measure(0, 5)", x.measure(0, 5));
        told("back(0, 7, 6)", x.back(0, 7, 6));
        told("tree()", x.tree());
        told("height(6, 100)", x.height(6, 100));
        told("tree()", x.tree());
    }

    private void fits(SaddleHouse x) {
        told("bears(0, 0, 7, 90, 4)", x.bears(0, 0, 7, 90, 4));
        told("fault(0, 0, 7, 90, 12, 0)", x.fault(0, 0, 7, 90, 12, 0));
        told("shim(0, 4, 9)", x.shim(0, 4, 9));
        told("fault(0, 0, 7, 90, 12, 0)", x.fault(0, 0, 7, 90, 12, 0));
        told("fault(0, 0, 7, 90, 12, 1)", x.fault(0, 0, 7, 90, 12, 1));
        told("best(0, 7, 90, 12)", x.best(0, 7, 90, 12));
        told("best(0, 7, 90, 18)", x.best(0, 7, 90, 18));
        told("day(7)", x.day(7));
        told("fewest(90, 18)", x.fewest(90, 18));
    }

    private void theRest(SaddleHouse x) {
        told("hide()", x.hide());
        told("flaw(0, 3, 2)", x.flaw(0, 3, 2));
        told("cut(0, 4, 3)", x.cut(0, 4, 3));
        told("pair(0, 5, 4)", x.pair(0, 5, 4));
        told("bench(8)", x.bench(8));
        told("work(20, 3)", x.work(20, 3));
        told("where()", x.where());
        told("saddle(0, 0, 7, 90, 2)", x.saddle(0, 0, 7, 90, 2));
        told("height(4, 105)", x.height(4, 105));
        told("measure(0, 60)", x.measure(0, 60));
        told("changed(0, 65)", x.changed(0, 65));
        told("free(0, 65)", x.free(0, 65));
        told("count(6)", x.count(6));
    }
}
