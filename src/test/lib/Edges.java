import java.nio.charset.StandardCharsets;
import java.nio.file.Files;
import java.nio.file.Path;
import java.util.ArrayList;
import java.util.Arrays;
import java.util.List;
import java.util.function.Consumer;
import java.util.function.ToIntFunction;

/**
 * The frame of the tests that go along the document sentence by sentence: each sentence with a test of its own on new objects, none of
 * which is asked more than the 512 calls that it is good for.
 */
abstract class Edges {
    protected static final int MOST_CALLS = 512;
    protected static final int MAX = Integer.MAX_VALUE;
    protected static final int MIN = Integer.MIN_VALUE;

    protected static String section = "";
    protected static BillRegistry x = new BillRegistry();

    private static int wrong = 0;
    private static int edges = 0;
    private static boolean lookingUp = false;
    private static String sentence = "";
    private static final List<String[]> quotes = new ArrayList<>();

    protected static void edge(String words, Runnable test) {
        edges++;
        sentence = words;
        quotes.add(new String[] {section, words});
        if (!lookingUp) {
            x = new BillRegistry();
            test.run();
        }
    }

    protected static void anew() {
        x = new BillRegistry();
    }

    protected static void fail(String what) {
        wrong++;
        StackTraceElement at = StackWalker.getInstance().walk(frames -> frames
                .filter(f -> f.getMethodName().startsWith("lambda")).findFirst().map(StackWalker.StackFrame::toStackTraceElement).orElse(null));
        System.out.println(section + ", \"" + sentence + "\", " + at + ": " + what);
    }

    protected static void is(int want, int got) {
        if (got != want) {
            fail("answered " + got + ", due is " + want);
        }
    }

    protected static void is(boolean want, boolean got) {
        if (got != want) {
            fail("answered " + got + ", due is " + want);
        }
    }

    protected static void all(int want, int... got) {
        for (int g : got) {
            is(want, g);
        }
    }

    /** Payable (0, 1, 2), to whom, owner, class, loose, the step at which it is broken. */
    protected static void chain(int... want) {
        for (int i = 0; i < want.length; i++) {
            int got = x.bill(0, 11 + i);
            if (got != want[i]) {
                fail("bill(0, " + (11 + i) + ") answered " + got + ", due is " + want[i]);
            }
        }
    }

    /** Puts a text on the tape, behind what is there. */
    protected static void tape(String text) {
        int length = x.count(8) + text.length();
        for (int at = 0; at < text.length(); at += 20) {
            int[] n = new int[5];
            for (int i = 0; i < 20; i++) {
                n[i / 4] = n[i / 4] << 8 | (at + i < text.length() ? text.charAt(at + i) & 255 : 32);
            }
            is(true, x.feed(n[0], n[1], n[2], n[3], n[4]) > 0);
        }
        is(length, x.end(length));
    }

    protected static int lines(String text) {
        tape(text);
        return x.text(false);
    }

    /** Where a text has its fault, on a new object. */
    protected static int faultOf(String text) {
        anew();
        tape(text);
        is(-1, x.text(false));
        return x.fault();
    }

    /** Everything that can be asked; what a refused deed changes stands ahead. */
    protected static List<ToIntFunction<BillRegistry>> questions() {
        List<ToIntFunction<BillRegistry>> all = new ArrayList<>();
        all.add(r -> r.refused());
        all.add(r -> r.count(7));
        all.add(r -> r.fault());
        for (int what = 0; what < 18; what++) {
            int w = what;
            if (w != 7) {
                all.add(r -> r.count(w));
            }
        }
        for (int person = 0; person < 8; person++) {
            int p = person;
            all.add(r -> r.owes(p));
            all.add(r -> r.worth(p));
        }
        for (int bill = 0; bill < 4; bill++) {
            questionsOf(bill, all);
        }
        return all;
    }

    protected static void questionsOf(int b, List<ToIntFunction<BillRegistry>> all) {
        for (int what = 0; what < 20; what++) {
            int w = what;
            all.add(r -> r.bill(b, w));
        }
        for (int party = 0; party < 14; party++) {
            int p = party;
            for (int what = 0; what < 10; what++) {
                int w = what;
                all.add(r -> r.step(b, p, w));
                all.add(r -> r.party(b, p, w));
            }
            for (int level = 0; level < 6; level++) {
                int l = level;
                all.add(r -> r.why(b, p, l / 2, l % 2));
            }
            all.add(r -> r.until(b, p));
            all.add(r -> r.run(b, p));
        }
        for (int person = 0; person < 8; person++) {
            int p = person;
            all.add(r -> r.gains(b, p));
            all.add(r -> r.sorts(b, p));
        }
        all.add(r -> r.liable(b));
        all.add(r -> r.reach(b));
        all.add(r -> r.run(b, -1));
        all.add(r -> r.ends(b));
    }

    private static final List<ToIntFunction<BillRegistry>> QUESTIONS = questions();
    // how many of them ask of the latest refusal
    private static final int TOLD = 2;

    /** All answers behind some calls, asked of as many new objects as it needs. */
    protected static List<Integer> answersBehind(Consumer<BillRegistry> calls) {
        List<Integer> answers = new ArrayList<>();
        BillRegistry r = new BillRegistry();
        for (int i = 0; i < QUESTIONS.size(); i++) {
            if (i % (MOST_CALLS - 200) == 0) {
                r = new BillRegistry();
                calls.accept(r);
            }
            answers.add(QUESTIONS.get(i).applyAsInt(r));
        }
        return answers;
    }

    /** Each of these deeds is refused, for that reason, and leaves all else as it is. */
    @SafeVarargs
    protected static void refuses(int reason, Consumer<BillRegistry> ahead, ToIntFunction<BillRegistry>... deeds) {
        List<Integer> before = answersBehind(ahead);
        for (int i = 0; i < deeds.length; i++) {
            ToIntFunction<BillRegistry> deed = deeds[i];
            BillRegistry r = new BillRegistry();
            ahead.accept(r);
            int refusals = r.count(7);
            int answer = Math.abs(deed.applyAsInt(r));
            if (answer != reason || r.refused() != reason || r.count(7) != refusals + 1) {
                fail("deed " + i + " answered " + answer + ", refused() " + r.refused() + ", count(7) went from " + refusals + " to " + r.count(7) + "; due is " + reason);
            }
            List<Integer> behind = answersBehind(calls -> {
                ahead.accept(calls);
                deed.applyAsInt(calls);
            });
            if (!behind.subList(TOLD, behind.size()).equals(before.subList(TOLD, before.size()))) {
                fail("deed " + i + " was refused, but changed something");
            }
        }
    }

    // ---- what is set up again and again

    /** To the order of 2, of 50, due today. */
    protected static void toOrder(BillRegistry r) {
        r.draw(0, 1, 2, 50, 0);
    }

    /** To bearer, of 50, due today. */
    protected static void toBearer(BillRegistry r) {
        r.draw(0, 1, 12, 50, 0);
    }

    /** Endorsed by 2, 3, 4 (parties 2, 3, 4) to 5, who presented it in vain. */
    protected static void dishonoured(BillRegistry r) {
        toOrder(r);
        r.pass(0, 1, 3, 5, false);
        r.pass(0, 1, 4, 5, false);
        r.pass(0, 1, 5, 5, false);
        r.present(0);
    }

    protected static void allTold(BillRegistry r) {
        dishonoured(r);
        for (int party = 1; party <= 4; party++) {
            r.tell(0, -1, party);
        }
    }

    /** Paid by the acceptor. */
    protected static void done(BillRegistry r) {
        toOrder(r);
        r.accept(0);
        r.present(0);
    }

    /** Twelve steps, from 2 over 3 and 4 by turns. */
    protected static void full(BillRegistry r) {
        toBearer(r);
        for (int i = 0; i < 12; i++) {
            r.pass(0, 0, 3 + i % 2, 0, false);
        }
    }

    /** Bill 0 taken up, then lost and endorsed in the name of who took it up; bill 1 done; bill 2 broken; bill 3 to be cured through a loss. */
    protected static void busy(BillRegistry r) {
        r.day(5);
        r.grace(3);
        allTold(r);
        r.defend(0, 1, false);
        r.release(0, 4);
        r.pay(0, 3);
        r.find(0, 7);
        r.forge(0, 3, 6, 5, false);
        r.draw(7, 6, 15, 9, 3);
        r.accept(1);
        r.pass(1, 10, 4, 3, true);
        r.defend(1, 2, true);
        r.day(4);
        r.present(1);
        r.draw(3, 4, 0, 8, 9);
        r.forge(2, 5, 1, 3, false);
        r.draw(1, 0, 6, 7, 0);
        r.find(3, 4);
        r.forge(3, 6, 5, 3, false);
        r.pass(3, 0, 3, 0, false);
        r.find(3, 7);
        r.pass(3, 3, 2, 3, false);
        r.day(0);
    }

    /** The same four bills in other states. */
    protected static void calm(BillRegistry r) {
        r.cash(6, 77);
        r.draw(5, 4, 3, 6, 9);
        r.find(0, 4);
        r.forge(0, 3, 5, 4, false);
        r.draw(2, 2, 2, 5, 0);
        r.present(1);
        r.tell(1, -1, 1);
        r.draw(6, 5, 4, 3, 2);
        r.accept(2);
        r.release(2, 0);
        r.draw(0, 1, 10, 2, 1);
        r.defend(3, 1, true);
        for (int step = 0; step < 5; step++) {
            r.pass(3, 0, 6 + step % 2, 0, true);
        }
    }

    /** Goes on with whatever there is: steps of all sorts on every bill, notices, payments, days, and what is on the tape. */
    protected static void goOn(BillRegistry r) {
        for (int bill = 0; bill < 4; bill++) {
            r.pass(bill, 3, 3, 5, false);
            r.pass(bill, 1, 2, 5, false);
            r.pass(bill, 0, 4, 0, false);
            r.accept(bill);
            r.present(bill);
            r.tell(bill, -1, 1);
            r.pay(bill, 1);
        }
        r.day(2);
        r.text(false);
    }

    protected static void days(BillRegistry r, int n) {
        for (int left = n; left > 0; left -= 99) {
            r.day(Math.min(left, 99));
        }
    }

    /** Reason, what it comes of, its place, what that comes of, its place. */
    protected static void why(int party, int... due) {
        int[] got = {x.why(0, party, 0, 0), x.why(0, party, 1, 0), x.why(0, party, 1, 1), x.why(0, party, 2, 0), x.why(0, party, 2, 1)};
        for (int i = 0; i < due.length; i++) {
            if (got[i] != due[i]) {
                fail("why of party " + party + " is " + java.util.Arrays.toString(got));
                return;
            }
        }
        is(due[0], x.party(0, party, 5));
        is(due[0] == 0 ? 0 : -1, x.why(0, party, 0, 1));
        is(due[0] == 0 ? 1 : 0, x.liable(0) >> party & 1);
    }

    protected static void run(int... due) {
        is(due.length, x.run(0, -1));
        for (int k = 0; k < due.length; k++) {
            is(due[k], x.run(0, k));
        }
        is(-2, x.run(0, due.length));
    }

    // ---- the end of a test, or looking up its sentences in the document

    /** With the path of the document as argument the sentences are only looked up. */
    protected static void begin(String[] args) {
        lookingUp = args.length > 0;
    }

    protected static void finish(String[] args, String from, String to) throws Exception {
        if (lookingUp) {
            lookUp(args[0], from, to);
            return;
        }
        System.out.println(wrong == 0 ? "all " + edges + " edges hold" : wrong + " answers are not as due");
        if (wrong != 0) {
            System.exit(1);
        }
    }

    /** Tells which sentences the document has no more, and what of a part of it no test names. */
    private static void lookUp(String path, String from, String to) throws Exception {
        String doc = Files.readString(Path.of(path), StandardCharsets.UTF_8).replaceAll("\\s+", " ");
        boolean[] named = new boolean[doc.length()];
        for (String[] quote : quotes) {
            int start = doc.indexOf("## " + quote[0]);
            int at = start < 0 ? -1 : doc.indexOf(quote[1], start);
            if (at < 0) {
                System.out.println("not in the document: " + quote[0] + ": " + quote[1]);
                continue;
            }
            Arrays.fill(named, at, at + quote[1].length(), true);
        }
        System.out.println("named by no test:");
        StringBuilder rest = new StringBuilder();
        for (int i = Math.max(0, doc.indexOf(from)); i < doc.indexOf(to); i++) {
            rest.append(named[i] ? '\n' : doc.charAt(i));
        }
        for (String left : rest.toString().split("\n+")) {
            if (left.matches(".*[a-zA-Z0-9].*")) {
                System.out.println("  " + left.trim());
            }
        }
    }
}
