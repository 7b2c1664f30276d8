import java.util.ArrayList;
import java.util.Arrays;
import java.util.List;
import java.util.Map;
import java.util.Random;
import java.util.TreeMap;
import java.util.regex.Matcher;
import java.util.regex.Pattern;

/**
 * Plays the same calls on BillRegistry and on a slow model that reckons everything anew from a log of events
 * (chains from the first step, cures by all subsets, reach by going round till nothing comes), and compares.
 * It asks more of an object than the 512 calls that the document speaks of: the class counts no calls.
 */
public final class BillRegistryModel {
    private static int wrong = 0;
    private static long compared = 0;
    private static final Map<Integer, Integer> seen = new TreeMap<>();

    // ---- the model

    /** A step, or (sort -1) a taking up by the person "to". */
    private record Event(int sort, int by, int name, int to, int value, boolean notice, boolean without, int day, boolean dishonoured) {
        boolean forged() { return sort >= 0 && sort <= 2 && by != name; }
    }

    private record State(char payable, int whom, int owner, int grade, boolean loose, int brokenAt, int brokenOf) { }

    private static final class Draft {
        int drawer, drawee, payee, sum, due, hand, dishonour = -1;
        boolean open, accepted, done;
        List<Event> events = new ArrayList<>();
        Map<Integer, Integer> notified = new TreeMap<>();
        Map<Integer, int[]> freed = new TreeMap<>();
        Map<Integer, Integer> defences = new TreeMap<>();

        Draft copy() {
            Draft d = new Draft();
            d.drawer = drawer; d.drawee = drawee; d.payee = payee; d.sum = sum; d.due = due; d.hand = hand;
            d.dishonour = dishonour; d.open = open; d.accepted = accepted; d.done = done;
            d.events = new ArrayList<>(events);
            d.notified = new TreeMap<>(notified);
            d.freed = new TreeMap<>(freed);
            d.defences = new TreeMap<>(defences);
            return d;
        }

        List<Event> steps() { return events.stream().filter(e -> e.sort >= 0).toList(); }

        /** The chain behind each event; cured: bits of steps that are taken as done by their name. */
        State chain(int lastEvent, int cured) {
            Map<Integer, Integer> first = new TreeMap<>();
            State c = new State(open ? 'b' : 'o', open ? -1 : payee, payee, 1, false, -1, 0);
            first.put(payee, 1);
            int step = 0;
            for (int i = 0; i < lastEvent; i++) {
                Event e = events.get(i);
                if (e.sort < 0) {
                    c = new State('o', e.to, e.to, first.getOrDefault(e.to, 1), false, -1, 0);
                    first.putIfAbsent(e.to, c.grade);
                    continue;
                }
                boolean cure = (cured >> step & 1) != 0 && e.forged();
                c = behind(c, e, step++, cure, first);
                // who has been owner is written down as soon as he is, whatever comes of the chain
                first.putIfAbsent(c.owner, c.grade);
            }
            return c;
        }

        State behind(State c, Event e, int step, boolean cure, Map<Integer, Integer> first) {
            if (c.brokenAt >= 0) return c;
            boolean loose = c.loose && !cure;
            if (e.sort == 4) return new State(c.payable, c.whom, c.owner, c.grade, true, -1, 0);
            if (e.sort == 3) {
                if (c.payable == 'b') return gets('b', -1, c, loose, e, first);
                boolean mine = e.to == c.owner && c.payable == 'o' && c.whom == e.to || c.payable == 'a' && c.whom == e.to;
                return new State(c.payable, c.whom, c.owner, c.grade, !mine, -1, 0);
            }
            if (c.payable != 'b') {
                if (e.name != c.whom) return new State(c.payable, c.whom, c.owner, c.grade, c.loose, step, 13);
                if (e.by != e.name && !cure) return new State(c.payable, c.whom, c.owner, c.grade, c.loose, step, 12);
            }
            if (c.payable == 'a') return new State('a', e.to, c.owner, c.grade, loose, -1, 0);
            if (e.sort == 0) return gets('b', -1, c, loose, e, first);
            if (e.sort == 1) return gets('o', e.to, c, loose, e, first);
            return new State('a', e.to, c.owner, c.grade, loose, -1, 0);
        }

        State gets(char payable, int whom, State c, boolean loose, Event e, Map<Integer, Integer> first) {
            boolean course = e.value > 0 && !e.notice && !(e.day > due) && !e.dishonoured;
            if (loose) {
                if (e.to == c.owner) return new State(payable, whom, c.owner, c.grade, false, -1, 0);
                if (course) return new State(payable, whom, e.to, 3, false, -1, 0);
                return new State(payable, whom, c.owner, c.grade, true, -1, 0);
            }
            int grade = first.containsKey(e.to) ? first.get(e.to) : course ? 3 : c.grade == 1 ? 1 : 2;
            return new State(payable, whom, e.to, grade, false, -1, 0);
        }

        boolean title(State c) {
            return c.brokenAt < 0 && !c.loose && (c.payable == 'b' || c.whom == hand);
        }

        State chain() { return chain(events.size(), 0); }

        boolean title() { return title(chain()); }

        int cure() {
            int forged = 0;
            List<Event> steps = steps();
            for (int i = 0; i < steps.size(); i++) if (steps.get(i).forged()) forged |= 1 << i;
            int best = -1;
            for (int set = forged; ; set = (set - 1) & forged) {
                if (title(chain(events.size(), set)) && (best < 0 || Integer.bitCount(set) < best)) best = Integer.bitCount(set);
                if (set == 0) return best;
            }
        }

        int parties() { return 2 + steps().size(); }

        int who(int party) {
            if (party == 0) return accepted ? drawee : -1;
            if (party == 1) return drawer;
            Event e = steps().get(party - 2);
            return e.sort <= 2 ? e.name : -1;
        }

        boolean signed(int party) {
            if (party < 2) return party == 1 || accepted;
            Event e = steps().get(party - 2);
            return e.sort <= 2 && e.by == e.name;
        }

        int rank() {
            for (int p = 1; p < parties(); p++) if (signed(p) && who(p) == hand) return p;
            return parties();
        }

        boolean mayTell(int from, int to, int today, int grace, Map<Integer, Integer> told) {
            if (dishonour < 0 || to < 1 || !signed(to) || told.containsKey(to)) return false;
            if (from < 0) return to < rank() && title() && today - dishonour <= grace;
            return to < from && told.containsKey(from) && today - told.get(from) <= grace;
        }

        int reach(int today, int grace) {
            Map<Integer, Integer> told = new TreeMap<>(notified);
            int bits = 0;
            for (boolean more = true; more; ) {
                more = false;
                for (int from = -1; from < parties(); from++) {
                    for (int to = 1; to < parties(); to++) {
                        if (mayTell(from, to, today, grace, told)) {
                            told.put(to, today);
                            bits |= 1 << to;
                            more = true;
                        }
                    }
                }
            }
            return bits;
        }

        int until(int party, int grace) {
            int last = -1;
            for (int day = 0; day <= 1100; day++) {
                for (int from = -1; from < parties(); from++) {
                    boolean told = from < 0 || notified.containsKey(from);
                    if (told && mayTell(from, party, day, grace, notified)) last = day;
                }
            }
            return last;
        }

        /** Reasons with their places, level by level: {reason, place}. */
        List<int[]> why(int party, int today, int grace) {
            State c = chain();
            List<int[]> w = new ArrayList<>();
            if (!title(c)) {
                w.add(new int[] {1, -1});
                if (c.brokenAt >= 0) {
                    w.add(new int[] {11, c.brokenAt});
                    w.add(new int[] {c.brokenOf, c.brokenAt});
                } else {
                    w.add(new int[] {14, -1});
                }
            } else if (done) {
                w.add(new int[] {2, -1});
            } else if (!signed(party)) {
                w.add(new int[] {3, -1});
                if (party >= 2 && steps().get(party - 2).forged()) w.add(new int[] {12, party - 2});
            } else if (party >= rank()) {
                w.add(new int[] {4, -1});
            } else if (freed.containsKey(party)) {
                w.add(new int[] {5, -1});
                w.add(freed.get(party));
            } else if (party >= 2 && steps().get(party - 2).without) {
                w.add(new int[] {6, -1});
            } else if (party == 0 && today < due || party > 0 && dishonour < 0) {
                w.add(new int[] {7, -1});
            } else if (party > 0 && !notified.containsKey(party)) {
                w.add(new int[] {8, -1});
                w.add(new int[] {(reach(today, grace) >> party & 1) == 1 ? 17 : 18, -1});
            } else {
                int defence = defences.getOrDefault(party, 0);
                if ((defence & 1) != 0 || defence == 2 && c.grade == 1) {
                    w.add(new int[] {9, -1});
                    w.add(new int[] {(defence & 1) != 0 ? 19 : 20, -1});
                }
            }
            return w;
        }

        void free(int party, int cause) {
            for (int p = party; p < parties(); p++) freed.putIfAbsent(p, new int[] {cause, party});
        }

        void pay(int party, int[] cash) {
            int payer = who(party);
            cash[payer] -= sum;
            cash[hand] = Math.min(9999, cash[hand] + sum);
            if (party == 0) {
                done = true;
            } else {
                free(party, 16);
                hand = payer;
                events.add(new Event(-1, -1, -1, payer, 0, false, false, 0, false));
            }
        }
    }

    private static final class Model {
        int today, grace = 2, paid, refusals, latest, fault = -1;
        int[] cash = new int[8];
        List<Draft> bills = new ArrayList<>();
        StringBuilder tape = new StringBuilder();
        Model[] images = new Model[3];

        Model() { Arrays.fill(cash, 100); }

        void take(Model m) {
            today = m.today; grace = m.grace; paid = m.paid; refusals = m.refusals; latest = m.latest; fault = m.fault;
            cash = m.cash.clone();
            bills = new ArrayList<>();
            for (Draft d : m.bills) bills.add(d.copy());
            tape = new StringBuilder(m.tape);
        }

        int feed(int... numbers) {
            if (tape.length() + 20 > 600) return -1;
            for (int n : numbers) for (int i = 3; i >= 0; i--) tape.append((char) (n >>> 8 * i & 255));
            return tape.length();
        }

        int end(int n) {
            if (n < 0 || n > tape.length()) return -1;
            tape.setLength(n);
            return n;
        }

        static boolean person(int p) { return p >= 0 && p <= 7; }
        boolean bill(int b) { return b >= 0 && b < bills.size(); }
        boolean party(int b, int p) { return bill(b) && p >= 0 && p < bills.get(b).parties(); }
        boolean signer(int b, int p) { return party(b, p) && bills.get(b).signed(p); }

        int told(int reason) {
            latest = reason;
            if (reason != 0) refusals++;
            return reason;
        }

        int day(int n) {
            if (n < 1 || n > 99 || today + n > 999) return told(30);
            today += n;
            return told(0);
        }

        int cash(int p, int n) {
            if (!person(p) || n < 0 || n > 9999) return told(30);
            cash[p] = n;
            return told(0);
        }

        int grace(int n) {
            if (n < 1 || n > 9) return told(30);
            grace = n;
            return told(0);
        }

        int draw(int drawer, int drawee, int payee, int sum, int days, boolean open) {
            if (bills.size() == 4 || !person(drawer) || !person(drawee) || !person(payee) || sum < 1 || sum > 999 || days < 0 || days > 99) return -told(30);
            Draft d = new Draft();
            d.drawer = drawer; d.drawee = drawee; d.payee = payee; d.hand = payee; d.sum = sum; d.due = today + days; d.open = open;
            bills.add(d);
            told(0);
            return bills.size() - 1;
        }

        int accept(int b) {
            if (!bill(b)) return told(30);
            Draft d = bills.get(b);
            if (d.accepted || d.dishonour >= 0 || d.done) return told(31);
            d.accepted = true;
            return told(0);
        }

        int step(int b, int sort, int name, int to, int value, boolean notice, boolean without) {
            if (!bill(b) || !person(to) || value < 0 || value > 999) return told(30);
            Draft d = bills.get(b);
            if (to == d.hand || d.steps().size() == 12) return told(30);
            if (d.done) return told(31);
            int by = sort == 4 ? -1 : d.hand;
            d.events.add(new Event(sort, by, sort >= 3 ? -1 : name < 0 ? by : name, to, value, notice, without, today, d.dishonour >= 0));
            d.hand = to;
            return told(0);
        }

        int pass(int b, int sort, int to, int value, boolean notice, boolean without) {
            if (sort < 0 || sort > 3 || sort == 3 && without) return told(30);
            return step(b, sort, -1, to, value, notice, without);
        }

        int forge(int b, int name, int to, int value, boolean notice) {
            if (!bill(b) || !person(name) || name == bills.get(b).hand) return told(30);
            return step(b, 1, name, to, value, notice, false);
        }

        int find(int b, int by) { return step(b, 4, -1, by, 0, false, false); }

        int defend(int b, int p, boolean real) {
            if (!signer(b, p)) return told(30);
            int bit = real ? 1 : 2;
            int has = bills.get(b).defences.getOrDefault(p, 0);
            if ((has & bit) != 0) return told(31);
            bills.get(b).defences.put(p, has | bit);
            return told(0);
        }

        boolean payable(Draft d, int p, int[] cash) {
            return d.why(p, today, grace).isEmpty() && cash[d.who(p)] >= d.sum;
        }

        int present(int b) {
            if (!bill(b)) return told(30);
            Draft d = bills.get(b);
            if (today < d.due || d.done || d.dishonour >= 0 || !d.title()) return told(31);
            told(0);
            if (payable(d, 0, cash)) {
                d.pay(0, cash);
                paid++;
                return 0;
            }
            d.dishonour = today;
            return 1;
        }

        int tell(int b, int from, int to) {
            if (!signer(b, to) || to == 0 || from != -1 && !party(b, from)) return told(30);
            Draft d = bills.get(b);
            if (to >= (from == -1 ? d.rank() : from)) return told(30);
            if (!d.mayTell(from, to, today, grace, d.notified)) return told(31);
            d.notified.put(to, today);
            return told(0);
        }

        int release(int b, int p) {
            if (!signer(b, p)) return told(30);
            Draft d = bills.get(b);
            if (!d.title() || d.freed.containsKey(p) || d.done) return told(31);
            d.free(p, 15);
            return told(0);
        }

        int pay(int b, int p) {
            if (!party(b, p)) return told(30);
            Draft d = bills.get(b);
            List<int[]> why = d.why(p, today, grace);
            if (!why.isEmpty()) return told(why.get(0)[0]);
            if (cash[d.who(p)] < d.sum) return told(32);
            d.pay(p, cash);
            paid++;
            return told(0);
        }

        // ---- text

        static final Pattern TOKEN = Pattern.compile("[ \\n]*(?:([a-z]+)|([0-9]+)|(;)|($)|(.))", Pattern.DOTALL);
        static final String[] FORMS = {"day n", "cash nn", "grace n", "draw nnnnn", "open nnnnn", "accept n", "blank nnnxy", "special nnnxy",
            "agent nnnxy", "deliver nnnxy", "forge nnnnx", "find nn", "real nn", "personal nn", "present n", "hand nn", "notify nnn", "release nn", "pay nn"};

        int text(boolean anew) {
            String t = tape.toString();
            tape.setLength(0);
            if (anew) {
                Model[] kept = images;
                take(new Model());
                images = kept;
            }
            List<List<String>> lines = new ArrayList<>();
            fault = parse(t, lines);
            if (fault >= 0) return -1;
            int done = 0;
            for (List<String> line : lines) {
                line(line);
                if (latest != 0) break;
                done++;
            }
            return done;
        }

        static int parse(String t, List<List<String>> lines) {
            Matcher m = TOKEN.matcher(t);
            List<String> line = new ArrayList<>();
            String form = "";
            int at = 0;
            while (m.find(at)) {
                int group = 1;
                while (m.group(group) == null) group++;
                String token = m.group(group);
                int place = m.start(group);
                at = m.end();
                if (group == 4) return line.isEmpty() ? -1 : place;
                if (group == 5 || group == 2 && token.length() > 4) return place;
                if (line.isEmpty()) {
                    form = null;
                    for (String f : FORMS) if (group == 1 && f.startsWith(token + " ")) form = f.substring(token.length() + 1);
                    if (form == null) return place;
                    line.add(token);
                    continue;
                }
                if (group == 2) {
                    if (!form.startsWith("n")) return place;
                    form = form.substring(1);
                    line.add(token);
                } else if (group == 1) {
                    if (token.equals("notice") && form.startsWith("x")) form = form.substring(1);
                    else if (token.equals("without") && (form.equals("xy") || form.equals("y"))) form = "";
                    else return place;
                    line.add(token);
                } else {
                    if (form.startsWith("n")) return place;
                    lines.add(line);
                    line = new ArrayList<>();
                }
            }
            throw new IllegalStateException();
        }

        void line(List<String> line) {
            int[] n = line.stream().skip(1).filter(w -> Character.isDigit(w.charAt(0))).mapToInt(Integer::parseInt).toArray();
            boolean notice = line.contains("notice"), without = line.contains("without");
            switch (line.get(0)) {
                case "day" -> day(n[0]);
                case "cash" -> cash(n[0], n[1]);
                case "grace" -> grace(n[0]);
                case "draw" -> draw(n[0], n[1], n[2], n[3], n[4], false);
                case "open" -> draw(n[0], n[1], n[2], n[3], n[4], true);
                case "accept" -> accept(n[0]);
                case "blank" -> pass(n[0], 0, n[1], n[2], notice, without);
                case "special" -> pass(n[0], 1, n[1], n[2], notice, without);
                case "agent" -> pass(n[0], 2, n[1], n[2], notice, without);
                case "deliver" -> pass(n[0], 3, n[1], n[2], notice, without);
                case "forge" -> forge(n[0], n[1], n[2], n[3], notice);
                case "find" -> find(n[0], n[1]);
                case "real" -> defend(n[0], n[1], true);
                case "personal" -> defend(n[0], n[1], false);
                case "present" -> present(n[0]);
                case "hand" -> tell(n[0], -1, n[1]);
                case "notify" -> tell(n[0], n[1], n[2]);
                case "release" -> release(n[0], n[1]);
                default -> pay(n[0], n[1]);
            }
        }

        // ---- what there is

        int count(int what) {
            return switch (what) {
                case 0 -> today;
                case 1 -> bills.size();
                case 2 -> grace;
                case 3 -> Arrays.stream(cash).sum();
                case 4 -> paid;
                case 5 -> (int) bills.stream().filter(d -> d.dishonour >= 0).count();
                case 6 -> (int) bills.stream().filter(d -> d.done).count();
                case 7 -> refusals;
                case 8 -> tape.length();
                default -> what >= 10 && what <= 17 ? cash[what - 10] : -1;
            };
        }

        int bill(int b, int what) {
            if (!bill(b)) return -2;
            Draft d = bills.get(b);
            State c = d.chain();
            return switch (what) {
                case 0 -> d.drawer;
                case 1 -> d.drawee;
                case 2 -> d.payee;
                case 3 -> d.sum;
                case 4 -> d.due;
                case 5 -> d.open ? 1 : 0;
                case 6 -> d.accepted ? 1 : 0;
                case 7 -> d.hand;
                case 8 -> d.steps().size();
                case 9 -> d.dishonour;
                case 10 -> d.done ? 1 : 0;
                case 11 -> "oba".indexOf(c.payable);
                case 12 -> c.whom;
                case 13 -> c.owner;
                case 14 -> c.grade;
                case 15 -> c.loose ? 1 : 0;
                case 16 -> c.brokenAt;
                case 17 -> d.title() ? 1 : 0;
                case 18 -> d.rank();
                case 19 -> d.cure();
                default -> -2;
            };
        }

        int step(int b, int k, int what) {
            if (!bill(b) || k < 0 || k >= bills.get(b).steps().size()) return -2;
            Draft d = bills.get(b);
            Event e = d.steps().get(k);
            int place = 0;
            for (int i = 0, n = -1; n < k; i++) {
                if (d.events.get(i).sort >= 0) n++;
                place = i + 1;
            }
            State c = d.chain(place, 0);
            return switch (what) {
                case 0 -> e.sort;
                case 1 -> e.by;
                case 2 -> e.name;
                case 3 -> e.to;
                case 4 -> e.value;
                case 5 -> e.notice ? 1 : 0;
                case 6 -> e.without ? 1 : 0;
                case 7 -> e.day;
                case 8 -> c.owner;
                case 9 -> c.grade;
                default -> -2;
            };
        }

        int party(int b, int p, int what) {
            if (!party(b, p)) return -2;
            Draft d = bills.get(b);
            return switch (what) {
                case 0 -> d.who(p);
                case 1 -> d.signed(p) ? 1 : 0;
                case 2 -> d.notified.getOrDefault(p, -1);
                case 3 -> d.freed.containsKey(p) ? 1 : 0;
                case 4 -> d.defences.getOrDefault(p, 0);
                case 5 -> why(b, p, 0, 0);
                default -> -2;
            };
        }

        int why(int b, int p, int level, int what) {
            if (!party(b, p) || level < 0 || level > 2 || what < 0 || what > 1) return -2;
            List<int[]> w = bills.get(b).why(p, today, grace);
            return level < w.size() ? w.get(level)[what] : 0;
        }

        int liable(int b) {
            if (!bill(b)) return -2;
            int bits = 0;
            for (int p = 0; p < bills.get(b).parties(); p++) if (bills.get(b).why(p, today, grace).isEmpty()) bits |= 1 << p;
            return bits;
        }

        int reach(int b) { return bill(b) ? bills.get(b).reach(today, grace) : -2; }

        int run(Draft d, int[] money, List<Integer> payers) {
            for (int p = d.parties() - 1; p >= 0; p--) {
                if (payable(d, p, money)) {
                    payers.add(p);
                    d.pay(p, money);
                    return run(d, money, payers);
                }
            }
            return d.hand;
        }

        int run(int b, int k) {
            if (!bill(b)) return -2;
            List<Integer> payers = new ArrayList<>();
            run(bills.get(b).copy(), cash.clone(), payers);
            return k == -1 ? payers.size() : k >= 0 && k < payers.size() ? payers.get(k) : -2;
        }

        int gains(int b, int p) {
            if (!bill(b) || !person(p)) return 0;
            int[] money = cash.clone();
            run(bills.get(b).copy(), money, new ArrayList<>());
            return money[p] - cash[p];
        }

        int ends(int b) { return bill(b) ? run(bills.get(b).copy(), cash.clone(), new ArrayList<>()) : -1; }

        int owes(int p) {
            if (!person(p)) return -1;
            int sum = 0;
            for (int b = 0; b < bills.size(); b++) {
                boolean any = false;
                for (int i = 0; i < bills.get(b).parties(); i++) any |= (liable(b) >> i & 1) == 1 && bills.get(b).who(i) == p;
                if (any) sum += bills.get(b).sum;
            }
            return sum;
        }

        int worth(int p) {
            if (!person(p)) return -1;
            int sum = 0;
            for (Draft d : bills) {
                boolean any = false;
                for (int i = 0; i < d.parties(); i++) any |= payable(d, i, cash);
                if (any && d.hand == p && d.title()) sum += d.sum;
            }
            return sum;
        }

        int until(int b, int p) { return party(b, p) ? bills.get(b).until(p, grace) : -1; }

        int sorts(int b, int sort) {
            if (!bill(b) || sort < 0 || sort > 5) return -2;
            return (int) bills.get(b).steps().stream().filter(e -> sort == 5 ? e.forged() : e.sort == sort).count();
        }

        boolean image(int k) {
            if (k < 0 || k > 2) return false;
            images[k] = new Model();
            images[k].take(this);
            return true;
        }

        boolean again(int k) {
            if (k < 0 || k > 2 || images[k] == null) return false;
            take(images[k]);
            return true;
        }
    }

    // ---- the play

    private static final class Play {
        final Random random;
        final BillRegistry x = new BillRegistry();
        final Model m = new Model();
        final StringBuilder log = new StringBuilder();
        final int people;
        final int seed;
        final boolean tidy;

        Play(int seed) {
            this.seed = seed;
            random = new Random(seed);
            people = 2 + random.nextInt(7);
            tidy = random.nextInt(3) != 0;
        }

        /** A few bills, accepted or not, with which most deeds can be done. */
        void start() {
            for (int i = random.nextInt(4); i >= 0; i--) {
                int drawer = random.nextInt(people), drawee = random.nextInt(people), payee = random.nextInt(people), sum = 1 + random.nextInt(70), days = random.nextInt(4);
                boolean open = odds(3);
                log.append("draw " + drawer + " " + drawee + " " + payee + " " + sum + " " + days + " " + open + "\n");
                same("draw", x.draw(drawer, drawee, payee + (open ? 10 : 0), sum, days), m.draw(drawer, drawee, payee, sum, days, open));
                if (odds(2)) {
                    int b = m.bills.size() - 1;
                    log.append("accept " + b + "\n");
                    same("accept", x.accept(b), m.accept(b));
                }
            }
        }

        /** A bill that went through many hands, dishonoured, with notices to most: long runs of payments come of such ones alone. */
        void recourse() {
            int b = m.bills.size(), drawee = random.nextInt(people), payee = random.nextInt(people), sum = 1 + random.nextInt(120);
            log.append("recourse ").append(b).append('\n');
            same("draw", x.draw(0, drawee, payee, sum, 0), m.draw(0, drawee, payee, sum, 0, false));
            if (!m.bill(b)) return;
            if (odds(2)) same("accept", x.accept(b), m.accept(b));
            for (int i = random.nextInt(10); i >= 0; i--) {
                int sort = new int[] {0, 0, 0, 1, 1, 1, 1, 2, 10, 11}[random.nextInt(10)], to = otherThanHand(b, random.nextInt(people)), value = odds(3) ? 0 : 5;
                boolean notice = odds(4);
                log.append("pass " + sort + " " + to + " " + value + " " + notice + "\n");
                same("pass", x.pass(b, sort, to, value, notice), m.pass(b, sort % 10, to, value, notice, sort >= 10));
            }
            same("cash", x.cash(drawee, 0), m.cash(drawee, 0));
            same("present", x.present(b), m.present(b));
            for (int party = m.bills.get(b).parties() - 1; party > 0; party--) {
                if (odds(8)) continue;
                log.append("tell " + party + "\n");
                same("tell", x.tell(b, -1, party), m.tell(b, -1, party));
                if (odds(9)) same("defend", x.defend(b, party, party % 2 == 0), m.defend(b, party, party % 2 == 0));
            }
            for (int who = 0; who < people; who++) {
                int n = odds(6) ? random.nextInt(120) : odds(9) ? 9990 : 120;
                log.append("cash " + who + " " + n + "\n");
                same("cash", x.cash(who, n), m.cash(who, n));
            }
            if (odds(5)) same("release", x.release(b, 3), m.release(b, 3));
            look();
        }

        /** Whether a step of this sort is left out, since it would soon end what can be done with the bill. */
        boolean untidy(int b, int sort) {
            if (!tidy || !m.bill(b) || odds(8)) return false;
            boolean title = m.bill(b, 17) == 1;
            return sort <= 2 ? !title && m.bill(b, 11) != 1 || sort == 2 && !odds(5) : m.bill(b, 11) != 1;
        }

        boolean odds(int oneIn) { return random.nextInt(oneIn) == 0; }

        int odd() {
            int[] some = {-1, -2, 8, 10, 17, 18, 999, 1000, Integer.MIN_VALUE, Integer.MAX_VALUE, Integer.MIN_VALUE + 10};
            return some[random.nextInt(some.length)];
        }

        int person() { return odds(40) ? odd() : random.nextInt(people); }
        int bill() { return odds(40) ? odd() : random.nextInt(Math.max(1, m.bills.size())); }
        int value() { return odds(40) ? odd() : odds(3) ? 0 : 1 + random.nextInt(60); }
        int sum() { return odds(40) ? odd() : odds(6) ? 0 : 1 + random.nextInt(80); }

        int party(int b) {
            if (odds(40)) return odd();
            return random.nextInt(m.bill(b) ? m.bills.get(b).parties() + (odds(10) ? 1 : 0) : 4);
        }

        void same(String call, long got, long want) {
            compared++;
            if (got != want && wrong++ < 20) System.out.println("seed " + seed + ":\n" + log + call + " answered " + got + ", the model " + want);
        }

        /** One of a set of parties, so that deeds often are such as can be done. */
        int oneOf(int bits, int else_) {
            if (bits <= 0 || odds(4)) return else_;
            int skip = random.nextInt(Integer.bitCount(bits));
            for (int i = 0; i < 14; i++) if ((bits >> i & 1) == 1 && skip-- == 0) return i;
            return else_;
        }

        int otherThanHand(int b, int who) {
            return m.bill(b) && m.bills.get(b).hand == who && !odds(10) ? (who + 1) % people : who;
        }

        void deed() {
            int b = bill(), p = party(b), q = party(b), who = person(), to = otherThanHand(b, person()), value = value();
            boolean flag = odds(4);
            int kind = random.nextInt(30);
            String call = "deed " + kind + ": b=" + b + " p=" + p + " q=" + q + " who=" + who + " to=" + to + " value=" + value + " flag=" + flag;
            log.append(call).append('\n');
            switch (kind) {
                case 0, 1 -> { int n = odds(30) ? odd() : random.nextInt(odds(20) ? 100 : 3); log.append(n).append('\n'); same(call, x.day(n), m.day(n)); }
                case 2 -> { int n = odds(20) ? odd() : odds(10) ? 9999 : random.nextInt(120); log.append(n).append('\n'); same(call, x.cash(who, n), m.cash(who, n)); }
                case 3 -> { int n = odds(4) ? 10 - random.nextInt(11) : 1 + random.nextInt(4); log.append(n).append('\n'); same(call, x.grace(n), m.grace(n)); }
                case 4 -> {
                    int days = odds(40) ? odd() : random.nextInt(3), sum = sum(), drawee = person();
                    int payee = odds(3) ? to + 10 : to;
                    log.append(drawee + " " + payee + " " + sum + " " + days + "\n");
                    same(call, x.draw(who, drawee, payee, sum, days), m.draw(who, drawee, payee >= 10 ? payee - 10 : payee, sum, days, payee >= 10));
                }
                case 5, 6 -> same(call, x.accept(b), m.accept(b));
                case 7, 8, 9, 10, 11, 12, 13 -> {
                    int sort = odds(40) ? 4 + random.nextInt(7) : new int[] {0, 0, 1, 1, 1, 2, 3, 3}[random.nextInt(8)] + (odds(8) ? 10 : 0);
                    if (untidy(b, sort % 10)) return;
                    log.append(sort).append('\n');
                    same(call, x.pass(b, sort, to, value, flag), m.pass(b, sort >= 10 ? sort - 10 : sort, to, value, flag, sort >= 10));
                }
                case 14, 15, 16 -> {
                    int name = odds(2) && m.bill(b) ? m.bill(b, 12) : who;
                    if (tidy && m.bill(b) && m.bill(b, 11) != 1 && !odds(6)) return;
                    log.append(name).append('\n');
                    same(call, x.forge(b, name, to, value, flag), m.forge(b, name, to, value, flag));
                }
                case 17, 18 -> { if (!untidy(b, 4)) same(call, x.find(b, to), m.find(b, to)); }
                case 19 -> same(call, x.defend(b, p, flag), m.defend(b, p, flag));
                case 20, 21, 22 -> same(call, x.present(b), m.present(b));
                case 23, 24 -> { int from = odds(2) ? -1 : p; q = oneOf(m.reach(b), q); log.append(from + " " + q + "\n"); same(call, x.tell(b, from, q), m.tell(b, from, q)); }
                case 25 -> { int to2 = m.bill(b) ? m.bill(b, 18) - 1 : 0; same(call, x.tell(b, -1, to2), m.tell(b, -1, to2)); }
                case 26 -> { if (odds(6)) same(call, x.release(b, p), m.release(b, p)); }
                default -> { p = oneOf(m.liable(b), p); log.append(p + "\n"); same(call, x.pay(b, p), m.pay(b, p)); }
            }
            seen.merge(m.latest, 1, Integer::sum);
        }

        void image() {
            int k = random.nextInt(5) - 1;
            boolean back = random.nextBoolean();
            log.append(back ? "again " : "image ").append(k).append('\n');
            same("image", (back ? x.again(k) : x.image(k)) ? 1 : 0, (back ? m.again(k) : m.image(k)) ? 1 : 0);
        }

        String number(int n) { return n < 0 || n > 9999 ? "" + random.nextInt(12) : "" + n; }

        String line() {
            String form = Model.FORMS[random.nextInt(Model.FORMS.length)];
            StringBuilder s = new StringBuilder(form.substring(0, form.indexOf(' ')));
            String rest = form.substring(form.indexOf(' ') + 1);
            for (int i = 0; i < rest.length(); i++) {
                char c = rest.charAt(i);
                if (c == 'n') s.append(odds(15) && i == 0 ? "" : " ").append(odds(200) ? "00010" : odds(40) ? number(odd()) : "" + random.nextInt(i == 0 ? 2 : people));
                if (c == 'x' && odds(5)) s.append(odds(9) ? "\n" : " ").append("notice");
                if (c == 'y' && odds(5)) s.append(" without");
            }
            return s.append(odds(9) ? " ;\n" : ";").toString();
        }

        void text() {
            StringBuilder s = new StringBuilder();
            for (int i = random.nextInt(6); i >= 0; i--) s.append(line());
            if (odds(4) && s.length() > 0) s.setCharAt(random.nextInt(s.length()), "; 9aZ\n\t\u00e9".charAt(random.nextInt(8)));
            if (odds(8)) s.setLength(random.nextInt(s.length() + 1));
            log.append("text ").append(s).append('\n');
            feed(s.toString());
            boolean anew = odds(10);
            same("text " + s, x.text(anew), m.text(anew));
            seen.merge(m.fault >= 0 ? 100 : 101, 1, Integer::sum);
        }

        void feed(String s) {
            int before = m.tape.length();
            for (int at = 0; at < s.length(); at += 20) {
                int[] n = new int[5];
                for (int i = 0; i < 20; i++) n[i / 4] = n[i / 4] << 8 | (at + i < s.length() ? s.charAt(at + i) : ' ');
                same("feed", x.feed(n[0], n[1], n[2], n[3], n[4]), m.feed(n));
            }
            int end = odds(20) ? odd() : before + s.length();
            same("end " + end, x.end(end), m.end(end));
        }

        void look() {
            same("fault()", x.fault(), m.fault);
            same("refused()", x.refused(), m.latest);
            for (int w = -1; w < 19; w++) same("count " + w, x.count(w), m.count(w));
            for (int p = -1; p < 9; p++) {
                same("owes " + p, x.owes(p), m.owes(p));
                same("worth " + p, x.worth(p), m.worth(p));
            }
            for (int b = -1; b <= m.bills.size(); b++) look(b);
            int o = odd();
            for (int w : new int[] {o, 12}) same("why", x.why(0, 1, 0, w), m.why(0, 1, 0, w));
            same("count odd", x.count(o), m.count(o));
            same("run odd", x.run(0, o), m.run(0, o));
            same("step odd", x.step(0, o, 0), m.step(0, o, 0));
            same("party odd", x.party(0, o, 0), m.party(0, o, 0));
            same("until odd", x.until(0, o), m.until(0, o));
            same("until odd", x.until(o, 1), m.until(o, 1));
            same("gains odd", x.gains(0, o), m.gains(0, o));
        }

        void look(int b) {
            for (int w = -1; w <= 20; w++) same("bill " + b + " " + w, x.bill(b, w), m.bill(b, w));
            same("liable " + b, x.liable(b), m.liable(b));
            same("reach " + b, x.reach(b), m.reach(b));
            same("ends " + b, x.ends(b), m.ends(b));
            int steps = Math.max(0, m.bill(b, 8));
            for (int k = -1; k <= steps; k++) for (int w = -1; w <= 10; w++) same("step " + b + " " + k + " " + w, x.step(b, k, w), m.step(b, k, w));
            for (int p = -1; p <= steps + 2; p++) {
                for (int w = -1; w <= 6; w++) same("party " + b + " " + p + " " + w, x.party(b, p, w), m.party(b, p, w));
                for (int l = -1; l <= 3; l++) for (int w = -1; w <= 2; w++) same("why " + b + " " + p + " " + l + " " + w, x.why(b, p, l, w), m.why(b, p, l, w));
            }
            int p = random.nextInt(3 + steps);
            same("until " + b + " " + p, x.until(b, p), m.until(b, p));
            int payments = Math.max(0, m.run(b, -1));
            if (m.bill(b)) for (int i = 0; i < steps + 2; i++) for (int l = 0; l < 3; l++) seen.merge(10000 + 100 * l + m.why(b, i, l, 0), 1, Integer::sum);
            seen.merge(1000 + payments, 1, Integer::sum);
            seen.merge(2000 + m.bill(b, 19), 1, Integer::sum);
            seen.merge(3000 + 10 * m.bill(b, 11) + m.bill(b, 14), 1, Integer::sum);
            for (int k = -2; k <= payments; k++) same("run " + b + " " + k, x.run(b, k), m.run(b, k));
            for (int who = -1; who < 9; who++) same("gains " + b + " " + who, x.gains(b, who), m.gains(b, who));
            for (int s = -1; s < 7; s++) same("sorts " + b + " " + s, x.sorts(b, s), m.sorts(b, s));
        }
    }

    public static void main(String[] args) {
        int from = args.length > 0 ? Integer.parseInt(args[0]) : 0;
        int plays = args.length > 1 ? Integer.parseInt(args[1]) : 400;
        for (int seed = from; seed < from + plays && wrong == 0; seed++) {
            Play play = new Play(seed);
            play.start();
            if (seed % 3 == 0) play.recourse();
            int deeds = 20 + play.random.nextInt(100);
            for (int i = 0; i < deeds && wrong == 0; i++) {
                if (play.odds(25)) play.image();
                else if (play.odds(16)) play.text();
                else play.deed();
                if (play.odds(8)) play.look();
            }
            play.look();
        }
        if (args.length > 0) System.out.println(seen);
        System.out.println(compared + " answers compared, " + wrong + " are wrong");
        if (wrong != 0) System.exit(1);
    }
}
