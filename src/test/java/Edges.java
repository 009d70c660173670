import java.util.ArrayList;
import java.util.Arrays;
import java.util.List;
import java.util.TreeSet;
import java.util.function.ToLongFunction;

/** What the tests of the edges share: the sentence that is looked at, numbers outside, calls that change nothing. */
abstract class Edges {
    static final int BAD = -1;
    static final int STATE = -2;
    static final int FULL = -3;
    static final int NONE = -4;
    static final int LEAST = Integer.MIN_VALUE;
    static final int GREATEST = Integer.MAX_VALUE;

    private final Due due;
    private final Doc doc;

    /** A call, in words and as it is made, and the answer that is due. */
    record Call(String told, ToLongFunction<FloorYears> how, long answer) {
    }

    /** A call of one number, told with # where it stands. */
    interface OneNumber {
        long call(FloorYears x, int n);
    }

    Edges(Due due, Doc doc) {
        this.due = due;
        this.doc = doc;
    }

    abstract void test();

    /** What follows looks at these words of the document: a promise by its number, the terms by 0. */
    void said(int number, String words) {
        due.about((number == Doc.TERMS ? "the terms" : "promise " + number) + ", '" + words + "'");
        due.holds("these words stand in the document", doc.says(number, words));
    }

    void is(String call, long got, long want) {
        due.is(call, got, want);
    }

    /** The answers of a call of what = 0 and on. */
    void are(String call, FloorYears x, OneNumber how, long... want) {
        for (int what = 0; what < want.length; what++) {
            is(call.replace("#", "" + what), how.call(x, what), want[what]);
        }
    }

    static Call call(String told, ToLongFunction<FloorYears> how, long answer) {
        return new Call(told, how, answer);
    }

    /** Each of the calls answers as due, and behind them everything that calls show is as it was. */
    void still(House house, Call... calls) {
        House then = house.behind(x -> {
            for (Call c : calls) {
                c.how.applyAsLong(x);
            }
            return x;
        });
        FloorYears x = house.make();
        List<String> told = new ArrayList<>();
        for (Call c : calls) {
            is(c.told, c.how.applyAsLong(x), c.answer);
            told.add(c.told);
        }
        String unlike = House.firstUnlike(house, then);
        due.holds("behind " + told + " " + unlike, unlike.isEmpty());
    }

    /** BAD by each number just and far outside of low to high, and nothing changes by it. */
    void bad(House house, String told, int low, int high, OneNumber how) {
        still(house, Arrays.stream(outside(low, high))
            .mapToObj(n -> call(told.replace("#", "" + n), x -> how.call(x, n), BAD)).toArray(Call[]::new));
    }

    /** Numbers outside of low to high: the next ones, the farthest, and those that are alike in their lowest bits. */
    static int[] outside(int low, int high) {
        TreeSet<Integer> all = new TreeSet<>(List.of(low - 1, low - 2, high + 1, high + 2, LEAST, LEAST + 1,
            LEAST + low, LEAST + high, GREATEST, GREATEST - 1, GREATEST - high, low - 256, low + 256,
            low - 65536, low + 65536, ~low, ~high));
        return all.stream().mapToInt(n -> n).filter(n -> n < low || n > high).toArray();
    }

    /** Plain things, so many. */
    static String plain(int things) {
        return "plain;".repeat(things);
    }

    /** Lets years go until it is that year. */
    static FloorYears goTo(FloorYears x, int year) {
        for (int i = 0; i < 12 && x.rule(3) < year; i++) {
            x.go(Math.min(99, year - x.rule(3)));
        }
        return x;
    }
}
