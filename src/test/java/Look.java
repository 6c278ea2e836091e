import java.util.Map;
import java.util.TreeMap;

/**
 * All that later calls can see of an object, each by a name of its own: "seen", "hand", "ended", "marks", "filled",
 * "nulls", "wrongs", "indexes", "sign 3", "count 4", "cell 4.1". A look changes what it looks at, so it comes last.
 */
final class Look {
    private static final String[] ABOUT = {"marks", "filled", "nulls", "wrongs", "indexes"};
    private static final int PAGE = 10;

    private final Map<String, String> found = new TreeMap<>();
    private final TideShelves x;
    private int calls;

    Look(TideShelves x) {
        this.x = x;
        lookAtWhatLookingLeaves();
        found.put("hand", inHand());
        for (int shelf = 0; shelf < 16; shelf++) {
            lookAtShelf(shelf);
        }
    }

    Map<String, String> found() {
        return found;
    }

    int calls() {
        return calls;
    }

    private void lookAtWhatLookingLeaves() {
        found.put("seen", "" + x.seen());
        found.put("ended", "" + x.ended());
        for (int what = 0; what < ABOUT.length; what++) {
            found.put(ABOUT[what], "" + x.about(what));
        }
        int marks = x.about(0);
        for (int mark = 0; mark <= marks; mark++) {
            found.put("sign " + mark, "" + x.sign(mark));
        }
        calls += 4 + ABOUT.length + marks;
    }

    private String inHand() {
        int kind = x.held();
        long weight = x.weight();
        calls += 2;
        StringBuilder text = new StringBuilder(kind + ":" + weight);
        for (int i = 0; kind == PAGE && i < weight; i++) {
            text.append(" ").append(x.noted(i) == 0 ? "" + x.seen() : "not noted");
            calls += 2;
        }
        return text.toString();
    }

    private void lookAtShelf(int shelf) {
        int count = x.count(shelf);
        calls++;
        found.put("count " + shelf, "" + count);
        for (int i = 0; i < count; i++) {
            int answer = x.take(shelf, i);
            calls++;
            found.put("cell " + shelf + "." + i, answer == 0 ? inHand() : "not taken");
        }
    }
}
