import java.io.IOException;
import java.lang.reflect.Method;
import java.util.BitSet;
import java.util.Map;

/** Each promise and each part of the terms is held by a test that names it; with "tell", what no test quotes is printed. */
public final class CoverTest {
    private static final Class<?>[] TESTS = {TextEdgesTest.class, GoingEdgesTest.class, AheadEdgesTest.class, CallEdgesTest.class};

    public static void main(String[] args) throws IOException {
        Check check = new Check();
        check.about("cover");
        for (int promise = 1; promise <= 30; promise++) {
            check.same("a test holds Promise " + promise, count("Promise " + promise) > 0, true);
        }
        for (String part : new String[] {"Terms I", "Terms II", "Terms III"}) {
            check.same("a test holds " + part, count(part) > 0, true);
        }
        Document document = Document.read();
        if (args.length > 0 && document != null) {
            for (Map.Entry<String, String> place : document.places().entrySet()) {
                tellUnquoted(place.getKey(), place.getValue());
            }
        }
        check.close("CoverTest");
    }

    private static int count(String place) {
        int count = 0;
        for (Class<?> of : TESTS) {
            for (Method test : Edges.tests(of)) {
                count += test.getAnnotation(Holds.class).at().equals(place) ? 1 : 0;
            }
        }
        return count;
    }

    private static void tellUnquoted(String place, String text) {
        BitSet quoted = new BitSet();
        for (Class<?> of : TESTS) {
            for (Method test : Edges.tests(of)) {
                Holds holds = test.getAnnotation(Holds.class);
                int from = holds.at().equals(place) ? text.indexOf(holds.says()) : -1;
                if (from >= 0) {
                    quoted.set(from, from + holds.says().length());
                }
            }
        }
        for (int from = quoted.nextClearBit(0); from < text.length();) {
            int next = quoted.nextSetBit(from);
            int to = next < 0 ? text.length() : next;
            System.out.println(place + " | " + text.substring(from, to));
            from = quoted.nextClearBit(to);
        }
    }
}
