import java.util.Arrays;

/** A registry of bills: their deeds, their chains, and who is liable on them to whom. */
public final class BillRegistry {
    public static final int NONE = -1;

    private static final int NO_SUCH = -2;
    private static final int PEOPLE = 8;
    private static final int MOST_BILLS = 4;
    private static final int MOST_STEPS = 12;
    private static final int MOST_PARTIES = 2 + MOST_STEPS;
    private static final int MOST_BYTES = 600;
    private static final int MOST_NUMBERS = 5;
    private static final int MOST_CASH = 9999;
    private static final int MOST_SUM = 999;
    private static final int LAST_DAY = 999;
    private static final int MOST_DAYS = 99;
    private static final int IMAGES = 3;
    private static final int LEVELS = 3;

    private static final int BLANK = 0;
    private static final int SPECIAL = 1;
    private static final int RESTRICTIVE = 2;
    private static final int DELIVERY = 3;
    private static final int FINDING = 4;
    private static final int ANY_FORGED = 5;

    private static final int TO_ORDER = 0;
    private static final int TO_BEARER = 1;
    private static final int TO_AGENT = 2;

    private static final int UNTITLED = 1;
    private static final int DONE = 2;
    private static final int UNSIGNED = 3;
    private static final int BEHIND = 4;
    private static final int FREED = 5;
    private static final int WITHOUT = 6;
    private static final int EARLY = 7;
    private static final int UNNOTIFIED = 8;
    private static final int DEFENDED = 9;
    private static final int BROKEN = 11;
    private static final int FORGED = 12;
    private static final int WRONG = 13;
    private static final int LOOSE = 14;
    private static final int RELEASED = 15;
    private static final int TAKEN_UP = 16;
    private static final int IN_TIME = 17;
    private static final int LATE = 18;
    private static final int REAL = 19;
    private static final int PERSONAL = 20;

    private static final int CANNOT_BE = 30;
    private static final int NOT_NOW = 31;
    private static final int NO_CASH = 32;

    private static final int PAID = 0;
    private static final int DISHONOURED = 1;

    private static final int REAL_DEFENCE = 1;
    private static final int PERSONAL_DEFENCE = 2;

    private final World now = new World();
    private final World[] images = new World[IMAGES];
    private final Reader reader = new Reader();
    private final Recourse recourse = new Recourse();
    private final Cure cure = new Cure();

    public BillRegistry() {
    }

    // ---- the tape

    public int feed(int a, int b, int c, int d, int e) {
        return now.addBytes(a, b, c, d, e);
    }

    public int end(int n) {
        if (n < 0 || n > now.tapeLength) {
            return NONE;
        }
        now.tapeLength = n;
        return n;
    }

    public int text(boolean anew) {
        int length = now.tapeLength;
        now.tapeLength = 0;
        if (anew) {
            now.begin();
        }
        reader.open(now.tape, length);
        now.faultPlace = reader.faultPlace();
        if (now.faultPlace != NONE) {
            return NONE;
        }
        reader.open(now.tape, length);
        int done = 0;
        while (done < MOST_BYTES && !reader.atEnd() && reader.readLine() && now.note(reasonOfLine()) == 0) {
            done++;
        }
        return done;
    }

    public int fault() {
        return now.faultPlace;
    }

    public int refused() {
        return now.latest;
    }

    // ---- deeds

    public int day(int n) {
        return now.note(now.goOn(n));
    }

    public int cash(int person, int n) {
        return now.note(now.setCash(person, n));
    }

    public int grace(int n) {
        return now.note(now.setGrace(n));
    }

    public int draw(int drawer, int drawee, int payee, int sum, int days) {
        boolean open = payee >= 10;
        int reason = now.note(now.drawOne(drawer, drawee, open ? payee - 10 : payee, sum, days, open));
        return reason == 0 ? now.billCount - 1 : -reason;
    }

    public int accept(int bill) {
        return now.note(now.acceptOne(bill));
    }

    public int pass(int bill, int sort, int to, int value, boolean notice) {
        boolean without = sort >= 10;
        return now.note(now.passOn(bill, without ? sort - 10 : sort, to, value, notice, without));
    }

    public int forge(int bill, int name, int to, int value, boolean notice) {
        return now.note(now.passForged(bill, name, to, value, notice));
    }

    public int find(int bill, int by) {
        return now.note(now.findOne(bill, by));
    }

    public int defend(int bill, int party, boolean real) {
        return now.note(now.giveDefence(bill, party, real));
    }

    public int present(int bill) {
        int answer = now.presentOne(bill);
        now.note(refusalOf(answer));
        return answer;
    }

    public int tell(int bill, int from, int to) {
        return now.note(now.giveNotice(bill, from, to));
    }

    public int release(int bill, int party) {
        return now.note(now.releaseOne(bill, party));
    }

    public int pay(int bill, int party) {
        return now.note(now.payOne(bill, party));
    }

    // ---- what there is

    public int count(int what) {
        switch (what) {
            case 0: return now.today;
            case 1: return now.billCount;
            case 2: return now.graceDays;
            case 3: return now.cashOfAll();
            case 4: return now.payments;
            case 5: return now.dishonouredBills();
            case 6: return now.doneBills();
            case 7: return now.refusals;
            case 8: return now.tapeLength;
            default: return isPerson(what - 10) ? now.cash[what - 10] : NONE;
        }
    }

    public int bill(int bill, int what) {
        if (!now.hasBill(bill)) {
            return NO_SUCH;
        }
        Bill b = now.bills[bill];
        switch (what) {
            case 0: return b.drawer;
            case 1: return b.drawee;
            case 2: return b.payee;
            case 3: return b.sum;
            case 4: return b.due;
            case 5: return bit(b.open);
            case 6: return bit(b.accepted);
            case 7: return b.hand;
            case 8: return b.stepCount;
            case 9: return b.dishonour;
            case 10: return bit(b.done);
            case 11: return b.chain.payable;
            case 12: return b.chain.whom;
            case 13: return b.chain.owner;
            case 14: return b.chain.grade;
            case 15: return bit(b.chain.loose);
            case 16: return b.chain.brokenAt;
            case 17: return bit(b.hasTitle());
            case 18: return b.rank();
            case 19: return cure.fewest(b);
            default: return NO_SUCH;
        }
    }

    public int step(int bill, int step, int what) {
        if (!now.hasBill(bill) || !now.bills[bill].hasStep(step)) {
            return NO_SUCH;
        }
        Step s = now.bills[bill].steps[step];
        switch (what) {
            case 0: return s.sort;
            case 1: return s.by;
            case 2: return s.name;
            case 3: return s.to;
            case 4: return s.value;
            case 5: return bit(s.notice);
            case 6: return bit(s.without);
            case 7: return s.day;
            case 8: return s.owner;
            case 9: return s.grade;
            default: return NO_SUCH;
        }
    }

    public int party(int bill, int party, int what) {
        if (!now.hasParty(bill, party)) {
            return NO_SUCH;
        }
        Bill b = now.bills[bill];
        switch (what) {
            case 0: return b.who(party);
            case 1: return bit(b.signed(party));
            case 2: return b.notified[party];
            case 3: return bit(b.freedOf[party] != 0);
            case 4: return b.defences[party];
            case 5: return b.whyNot(party, now.today);
            default: return NO_SUCH;
        }
    }

    public int why(int bill, int party, int level, int what) {
        if (!now.hasParty(bill, party) || level < 0 || level >= LEVELS || what < 0 || what > 1) {
            return NO_SUCH;
        }
        Bill b = now.bills[bill];
        int cause = b.whyNot(party, now.today);
        if (level > 0) {
            cause = b.comesOf(party, cause, now.today, now.graceDays);
        }
        if (level > 1) {
            cause = cause == BROKEN ? b.chain.brokenOf : 0;
        }
        return what == 0 || cause == 0 ? cause : b.placeOf(party, cause);
    }

    public int liable(int bill) {
        if (!now.hasBill(bill)) {
            return NO_SUCH;
        }
        Bill b = now.bills[bill];
        int bits = 0;
        for (int party = 0; party < b.parties(); party++) {
            if (b.whyNot(party, now.today) == 0) {
                bits |= 1 << party;
            }
        }
        return bits;
    }

    public int reach(int bill) {
        if (!now.hasBill(bill)) {
            return NO_SUCH;
        }
        Bill b = now.bills[bill];
        int bits = 0;
        for (int party = 1; party < b.parties(); party++) {
            if (b.inReach(party, now.today, now.graceDays)) {
                bits |= 1 << party;
            }
        }
        return bits;
    }

    public int run(int bill, int k) {
        if (!now.hasBill(bill)) {
            return NO_SUCH;
        }
        recourse.play(now.bills[bill], now.cash, now.today);
        if (k == NONE) {
            return recourse.payments;
        }
        return k >= 0 && k < recourse.payments ? recourse.payers[k] : NO_SUCH;
    }

    public int gains(int bill, int person) {
        if (!now.hasBill(bill) || !isPerson(person)) {
            return 0;
        }
        recourse.play(now.bills[bill], now.cash, now.today);
        return recourse.cash[person] - now.cash[person];
    }

    public int ends(int bill) {
        if (!now.hasBill(bill)) {
            return NONE;
        }
        recourse.play(now.bills[bill], now.cash, now.today);
        return recourse.bill.hand;
    }

    public int owes(int person) {
        if (!isPerson(person)) {
            return NONE;
        }
        int sums = 0;
        for (int i = 0; i < now.billCount; i++) {
            if (now.bills[i].binds(person, now.today)) {
                sums += now.bills[i].sum;
            }
        }
        return sums;
    }

    public int worth(int person) {
        if (!isPerson(person)) {
            return NONE;
        }
        int sums = 0;
        for (int i = 0; i < now.billCount; i++) {
            Bill b = now.bills[i];
            if (b.hand == person && b.greatestPayer(now.cash, now.today) != NONE) {
                sums += b.sum;
            }
        }
        return sums;
    }

    public int until(int bill, int party) {
        return now.hasParty(bill, party) ? now.bills[bill].lastDayToTell(party, now.graceDays) : NONE;
    }

    public int sorts(int bill, int sort) {
        if (!now.hasBill(bill) || sort < BLANK || sort > ANY_FORGED) {
            return NO_SUCH;
        }
        Bill b = now.bills[bill];
        int found = 0;
        for (int i = 0; i < b.stepCount; i++) {
            Step s = b.steps[i];
            if (sort == ANY_FORGED ? s.forged() : s.sort == sort) {
                found++;
            }
        }
        return found;
    }

    public boolean image(int k) {
        if (k < 0 || k >= IMAGES) {
            return false;
        }
        if (images[k] == null) {
            images[k] = new World();
        }
        images[k].copy(now);
        return true;
    }

    public boolean again(int k) {
        if (k < 0 || k >= IMAGES || images[k] == null) {
            return false;
        }
        now.copy(images[k]);
        return true;
    }

    // ---- of all of these

    private int reasonOfLine() {
        int[] n = reader.numbers;
        boolean notice = reader.notice;
        switch (reader.verb) {
            case DAY: return now.goOn(n[0]);
            case CASH: return now.setCash(n[0], n[1]);
            case GRACE: return now.setGrace(n[0]);
            case DRAW: return now.drawOne(n[0], n[1], n[2], n[3], n[4], false);
            case OPEN: return now.drawOne(n[0], n[1], n[2], n[3], n[4], true);
            case ACCEPT: return now.acceptOne(n[0]);
            case BLANK: return now.passOn(n[0], BLANK, n[1], n[2], notice, reader.without);
            case SPECIAL: return now.passOn(n[0], SPECIAL, n[1], n[2], notice, reader.without);
            case AGENT: return now.passOn(n[0], RESTRICTIVE, n[1], n[2], notice, reader.without);
            case DELIVER: return now.passOn(n[0], DELIVERY, n[1], n[2], notice, reader.without);
            case FORGE: return now.passForged(n[0], n[1], n[2], n[3], notice);
            case FIND: return now.findOne(n[0], n[1]);
            case REAL: return now.giveDefence(n[0], n[1], true);
            case PERSONAL: return now.giveDefence(n[0], n[1], false);
            case PRESENT: return refusalOf(now.presentOne(n[0]));
            case HAND: return now.giveNotice(n[0], NONE, n[1]);
            case NOTIFY: return now.giveNotice(n[0], n[1], n[2]);
            case RELEASE: return now.releaseOne(n[0], n[1]);
            case PAY: return now.payOne(n[0], n[1]);
            default: return CANNOT_BE;
        }
    }

    // a dishonour is no refusal, though the answer that tells it is not 0
    private static int refusalOf(int presented) {
        return presented == DISHONOURED ? 0 : presented;
    }

    private static boolean isPerson(int n) {
        return n >= 0 && n < PEOPLE;
    }

    private static int bit(boolean holds) {
        return holds ? 1 : 0;
    }

    /** One passing on of a bill, with who owned it right behind it. */
    private static final class Step {
        int sort;
        int by;
        int name;
        int to;
        int value;
        int day;
        int owner;
        int grade;
        boolean notice;
        boolean without;
        // kept, since a dishonour later on the same day would not show in the day
        boolean inDueCourse;

        boolean forged() {
            return name != NONE && name != by;
        }

        boolean signed() {
            return name != NONE && name == by;
        }

        void copy(Step s) {
            sort = s.sort;
            by = s.by;
            name = s.name;
            to = s.to;
            value = s.value;
            day = s.day;
            owner = s.owner;
            grade = s.grade;
            notice = s.notice;
            without = s.without;
            inDueCourse = s.inDueCourse;
        }
    }

    /** To whom a bill is payable and who owns it, gone along step by step. */
    private static final class Chain {
        int payable;
        int whom;
        int owner;
        int grade;
        int brokenAt;
        int brokenOf;
        boolean loose;
        // of each person the class with which he was owner first, 0 if he never was
        final int[] firstGrades = new int[PEOPLE];

        void begin(int payee, boolean open) {
            payable = open ? TO_BEARER : TO_ORDER;
            whom = open ? NONE : payee;
            brokenAt = NONE;
            brokenOf = 0;
            loose = false;
            Arrays.fill(firstGrades, 0);
            own(payee, 1);
        }

        void takeUp(int person) {
            payable = TO_ORDER;
            whom = person;
            brokenAt = NONE;
            brokenOf = 0;
            loose = false;
            own(person, Math.max(1, firstGrades[person]));
        }

        /** Cured: as if a forged step had been done by the one whose name it bears. */
        void follow(Step s, int at, boolean cured) {
            if (brokenAt != NONE) {
                return;
            }
            if (cured) {
                loose = false;
            }
            if (s.sort == FINDING) {
                loose = true;
            } else if (s.sort == DELIVERY ? delivered(s) : endorsed(s, at, cured)) {
                give(s);
            }
        }

        boolean entitles(int hand) {
            return brokenAt == NONE && !loose && (payable == TO_BEARER || whom == hand);
        }

        void copy(Chain c) {
            payable = c.payable;
            whom = c.whom;
            owner = c.owner;
            grade = c.grade;
            brokenAt = c.brokenAt;
            brokenOf = c.brokenOf;
            loose = c.loose;
            System.arraycopy(c.firstGrades, 0, firstGrades, 0, PEOPLE);
        }

        /** Whether the one to whom it is delivered gets it. */
        private boolean delivered(Step s) {
            if (payable == TO_BEARER) {
                return true;
            }
            // an agent holds it for the owner, so of him it is not asked that he is the owner
            loose = s.to != whom || payable == TO_ORDER && s.to != owner;
            return false;
        }

        /** Whether the one to whom it is endorsed gets it. */
        private boolean endorsed(Step s, int at, boolean cured) {
            if (payable != TO_BEARER && s.name != whom) {
                breakAt(at, WRONG);
                return false;
            }
            if (payable != TO_BEARER && s.forged() && !cured) {
                breakAt(at, FORGED);
                return false;
            }
            if (payable == TO_AGENT || s.sort == RESTRICTIVE) {
                payable = TO_AGENT;
                whom = s.to;
                return false;
            }
            payable = s.sort == BLANK ? TO_BEARER : TO_ORDER;
            whom = s.sort == BLANK ? NONE : s.to;
            return true;
        }

        private void breakAt(int at, int cause) {
            brokenAt = at;
            brokenOf = cause;
        }

        private void give(Step s) {
            if (!loose) {
                own(s.to, gradeOf(s));
            } else if (s.to == owner) {
                loose = false;
            } else if (s.inDueCourse) {
                own(s.to, 3);
                loose = false;
            }
        }

        private int gradeOf(Step s) {
            if (firstGrades[s.to] != 0) {
                return firstGrades[s.to];
            }
            if (s.inDueCourse) {
                return 3;
            }
            return grade >= 2 ? 2 : 1;
        }

        private void own(int person, int with) {
            owner = person;
            grade = with;
            if (firstGrades[person] == 0) {
                firstGrades[person] = with;
            }
        }
    }

    /** A bill with its steps, its chain, and what befell each of its parties. */
    private static final class Bill {
        int drawer;
        int drawee;
        int payee;
        int sum;
        int due;
        int hand;
        int dishonour;
        int stepCount;
        int startStep;
        boolean open;
        boolean accepted;
        boolean done;
        final Step[] steps = new Step[MOST_STEPS];
        final Chain chain = new Chain();
        // the chain as it was at first, or right behind the latest taking up: cures begin there
        final Chain start = new Chain();
        final int[] notified = new int[MOST_PARTIES];
        final int[] freedOf = new int[MOST_PARTIES];
        final int[] freedBy = new int[MOST_PARTIES];
        final int[] defences = new int[MOST_PARTIES];

        Bill() {
            for (int i = 0; i < MOST_STEPS; i++) {
                steps[i] = new Step();
            }
        }

        void begin(int by, int on, int to, boolean toBearer) {
            drawer = by;
            drawee = on;
            payee = to;
            open = toBearer;
            hand = to;
            dishonour = NONE;
            stepCount = 0;
            startStep = 0;
            accepted = false;
            done = false;
            chain.begin(to, toBearer);
            start.copy(chain);
            for (int i = 0; i < MOST_PARTIES; i++) {
                notified[i] = NONE;
                freedOf[i] = 0;
                freedBy[i] = NONE;
                defences[i] = 0;
            }
        }

        void copy(Bill b) {
            drawer = b.drawer;
            drawee = b.drawee;
            payee = b.payee;
            sum = b.sum;
            due = b.due;
            hand = b.hand;
            dishonour = b.dishonour;
            stepCount = b.stepCount;
            startStep = b.startStep;
            open = b.open;
            accepted = b.accepted;
            done = b.done;
            for (int i = 0; i < MOST_STEPS && i < b.stepCount; i++) {
                steps[i].copy(b.steps[i]);
            }
            chain.copy(b.chain);
            start.copy(b.start);
            System.arraycopy(b.notified, 0, notified, 0, MOST_PARTIES);
            System.arraycopy(b.freedOf, 0, freedOf, 0, MOST_PARTIES);
            System.arraycopy(b.freedBy, 0, freedBy, 0, MOST_PARTIES);
            System.arraycopy(b.defences, 0, defences, 0, MOST_PARTIES);
        }

        int parties() {
            return 2 + stepCount;
        }

        boolean hasStep(int step) {
            return step >= 0 && step < stepCount;
        }

        int who(int party) {
            if (party == 0) {
                return accepted ? drawee : NONE;
            }
            if (party == 1) {
                return drawer;
            }
            return hasStep(party - 2) ? steps[party - 2].name : NONE;
        }

        boolean signed(int party) {
            if (party == 0) {
                return accepted;
            }
            return party == 1 || hasStep(party - 2) && steps[party - 2].signed();
        }

        boolean forgedAt(int party) {
            return hasStep(party - 2) && steps[party - 2].forged();
        }

        boolean hasTitle() {
            return chain.entitles(hand);
        }

        int rank() {
            for (int party = 1; party < parties(); party++) {
                if (who(party) == hand && signed(party)) {
                    return party;
                }
            }
            return parties();
        }

        int whyNoStep(int to) {
            if (to == hand || stepCount >= MOST_STEPS) {
                return CANNOT_BE;
            }
            return done ? NOT_NOW : 0;
        }

        /** A step that bears no notice, goes with recourse, and is for no value, till more is said of it. */
        Step newStep(int sort, int name, int to, int today) {
            Step s = steps[stepCount];
            s.sort = sort;
            s.by = sort == FINDING ? NONE : hand;
            s.name = name;
            s.to = to;
            s.value = 0;
            s.notice = false;
            s.without = false;
            s.day = today;
            return s;
        }

        void addStep(Step s) {
            s.inDueCourse = s.value > 0 && !s.notice && s.day <= due && dishonour == NONE;
            chain.follow(s, stepCount, false);
            s.owner = chain.owner;
            s.grade = chain.grade;
            hand = s.to;
            stepCount++;
        }

        void free(int party, int cause) {
            for (int i = party; i < parties(); i++) {
                if (freedOf[i] == 0) {
                    freedOf[i] = cause;
                    freedBy[i] = party;
                }
            }
        }

        int whyNot(int party, int today) {
            if (!hasTitle()) {
                return UNTITLED;
            }
            if (done) {
                return DONE;
            }
            if (!signed(party)) {
                return UNSIGNED;
            }
            if (party >= rank()) {
                return BEHIND;
            }
            if (freedOf[party] != 0) {
                return FREED;
            }
            if (hasStep(party - 2) && steps[party - 2].without) {
                return WITHOUT;
            }
            if (party == 0 ? today < due : dishonour == NONE) {
                return EARLY;
            }
            if (party != 0 && notified[party] == NONE) {
                return UNNOTIFIED;
            }
            return defenceOf(party) == 0 ? 0 : DEFENDED;
        }

        int comesOf(int party, int reason, int today, int grace) {
            switch (reason) {
                case UNTITLED: return chain.brokenAt == NONE ? LOOSE : BROKEN;
                case UNSIGNED: return forgedAt(party) ? FORGED : 0;
                case FREED: return freedOf[party];
                case UNNOTIFIED: return inReach(party, today, grace) ? IN_TIME : LATE;
                case DEFENDED: return defenceOf(party);
                default: return 0;
            }
        }

        int placeOf(int party, int cause) {
            switch (cause) {
                case BROKEN:
                case WRONG: return chain.brokenAt;
                // a forgery is told of the chain, or of the party itself when the chain is whole
                case FORGED: return chain.brokenAt == NONE ? party - 2 : chain.brokenAt;
                case RELEASED:
                case TAKEN_UP: return freedBy[party];
                default: return NONE;
            }
        }

        private int defenceOf(int party) {
            if ((defences[party] & REAL_DEFENCE) != 0) {
                return REAL;
            }
            return defences[party] != 0 && chain.grade == 1 ? PERSONAL : 0;
        }

        boolean canTell(int from, int today, int grace) {
            if (dishonour == NONE) {
                return false;
            }
            if (from == NONE) {
                return hasTitle() && today - dishonour <= grace;
            }
            return notified[from] != NONE && today - notified[from] <= grace;
        }

        int lastDayToTell(int party, int grace) {
            if (party == 0 || dishonour == NONE || notified[party] != NONE || !signed(party)) {
                return NONE;
            }
            int last = hasTitle() && party < rank() ? dishonour + grace : NONE;
            for (int i = party + 1; i < parties(); i++) {
                if (notified[i] != NONE) {
                    last = Math.max(last, notified[i] + grace);
                }
            }
            return last;
        }

        // notices one behind the other reach nobody whom the first teller could not tell himself
        boolean inReach(int party, int today, int grace) {
            return lastDayToTell(party, grace) >= today;
        }

        boolean binds(int person, int today) {
            for (int party = 0; party < parties(); party++) {
                if (who(party) == person && whyNot(party, today) == 0) {
                    return true;
                }
            }
            return false;
        }

        boolean hasCash(int party, int[] cash) {
            int person = who(party);
            return isPerson(person) && cash[person] >= sum;
        }

        int greatestPayer(int[] cash, int today) {
            for (int party = parties() - 1; party >= 0; party--) {
                if (hasCash(party, cash) && whyNot(party, today) == 0) {
                    return party;
                }
            }
            return NONE;
        }

        void settle(int party, int[] cash) {
            int payer = who(party);
            if (!isPerson(payer)) {
                return;
            }
            cash[payer] -= sum;
            cash[hand] = Math.min(MOST_CASH, cash[hand] + sum);
            if (party == 0) {
                done = true;
                return;
            }
            hand = payer;
            chain.takeUp(payer);
            start.copy(chain);
            startStep = stepCount;
            free(party, TAKEN_UP);
        }
    }

    /** All that is, but for images; each deed answers 0 or the reason for which it is refused. */
    private static final class World {
        int today;
        int graceDays;
        int billCount;
        int payments;
        int refusals;
        int latest;
        int tapeLength;
        int faultPlace;
        final int[] cash = new int[PEOPLE];
        final Bill[] bills = new Bill[MOST_BILLS];
        final byte[] tape = new byte[MOST_BYTES];

        World() {
            for (int i = 0; i < MOST_BILLS; i++) {
                bills[i] = new Bill();
            }
            begin();
        }

        void begin() {
            today = 0;
            graceDays = 2;
            billCount = 0;
            payments = 0;
            refusals = 0;
            latest = 0;
            tapeLength = 0;
            faultPlace = NONE;
            for (int i = 0; i < PEOPLE; i++) {
                cash[i] = 100;
            }
        }

        void copy(World w) {
            today = w.today;
            graceDays = w.graceDays;
            billCount = w.billCount;
            payments = w.payments;
            refusals = w.refusals;
            latest = w.latest;
            tapeLength = w.tapeLength;
            faultPlace = w.faultPlace;
            System.arraycopy(w.cash, 0, cash, 0, PEOPLE);
            System.arraycopy(w.tape, 0, tape, 0, MOST_BYTES);
            for (int i = 0; i < MOST_BILLS && i < w.billCount; i++) {
                bills[i].copy(w.bills[i]);
            }
        }

        int addBytes(int a, int b, int c, int d, int e) {
            if (tapeLength > MOST_BYTES - 20) {
                return NONE;
            }
            addNumber(a);
            addNumber(b);
            addNumber(c);
            addNumber(d);
            addNumber(e);
            return tapeLength;
        }

        private void addNumber(int n) {
            for (int shift = 24; shift >= 0; shift -= 8) {
                tape[tapeLength] = (byte) (n >> shift);
                tapeLength++;
            }
        }

        int note(int reason) {
            latest = reason;
            if (reason != 0) {
                refusals++;
            }
            return reason;
        }

        boolean hasBill(int bill) {
            return bill >= 0 && bill < billCount;
        }

        boolean hasParty(int bill, int party) {
            return hasBill(bill) && party >= 0 && party < bills[bill].parties();
        }

        boolean hasSigner(int bill, int party) {
            return hasParty(bill, party) && bills[bill].signed(party);
        }

        int cashOfAll() {
            int all = 0;
            for (int i = 0; i < PEOPLE; i++) {
                all += cash[i];
            }
            return all;
        }

        int dishonouredBills() {
            int found = 0;
            for (int i = 0; i < billCount; i++) {
                found += bit(bills[i].dishonour != NONE);
            }
            return found;
        }

        int doneBills() {
            int found = 0;
            for (int i = 0; i < billCount; i++) {
                found += bit(bills[i].done);
            }
            return found;
        }

        int goOn(int days) {
            if (days < 1 || days > MOST_DAYS || today + days > LAST_DAY) {
                return CANNOT_BE;
            }
            today += days;
            return 0;
        }

        int setCash(int person, int n) {
            if (!isPerson(person) || n < 0 || n > MOST_CASH) {
                return CANNOT_BE;
            }
            cash[person] = n;
            return 0;
        }

        int setGrace(int n) {
            if (n < 1 || n > 9) {
                return CANNOT_BE;
            }
            graceDays = n;
            return 0;
        }

        int drawOne(int drawer, int drawee, int payee, int sum, int days, boolean open) {
            if (billCount >= MOST_BILLS || !isPerson(drawer) || !isPerson(drawee) || !isPerson(payee)) {
                return CANNOT_BE;
            }
            if (sum < 1 || sum > MOST_SUM || days < 0 || days > MOST_DAYS) {
                return CANNOT_BE;
            }
            Bill b = bills[billCount];
            b.begin(drawer, drawee, payee, open);
            b.sum = sum;
            b.due = today + days;
            billCount++;
            return 0;
        }

        int acceptOne(int bill) {
            if (!hasBill(bill)) {
                return CANNOT_BE;
            }
            Bill b = bills[bill];
            if (b.accepted || b.dishonour != NONE || b.done) {
                return NOT_NOW;
            }
            b.accepted = true;
            return 0;
        }

        int passOn(int bill, int sort, int to, int value, boolean notice, boolean without) {
            if (sort < BLANK || sort > DELIVERY || without && sort == DELIVERY) {
                return CANNOT_BE;
            }
            int reason = whyNoStep(bill, to, value);
            if (reason == 0) {
                Bill b = bills[bill];
                Step s = b.newStep(sort, sort == DELIVERY ? NONE : b.hand, to, today);
                s.value = value;
                s.notice = notice;
                s.without = without;
                b.addStep(s);
            }
            return reason;
        }

        int passForged(int bill, int name, int to, int value, boolean notice) {
            if (!hasBill(bill) || !isPerson(name) || name == bills[bill].hand) {
                return CANNOT_BE;
            }
            int reason = whyNoStep(bill, to, value);
            if (reason == 0) {
                Bill b = bills[bill];
                Step s = b.newStep(SPECIAL, name, to, today);
                s.value = value;
                s.notice = notice;
                b.addStep(s);
            }
            return reason;
        }

        int findOne(int bill, int by) {
            int reason = whyNoStep(bill, by, 0);
            if (reason == 0) {
                Bill b = bills[bill];
                b.addStep(b.newStep(FINDING, NONE, by, today));
            }
            return reason;
        }

        private int whyNoStep(int bill, int to, int value) {
            if (!hasBill(bill) || !isPerson(to) || value < 0 || value > MOST_SUM) {
                return CANNOT_BE;
            }
            return bills[bill].whyNoStep(to);
        }

        int giveDefence(int bill, int party, boolean real) {
            if (!hasSigner(bill, party)) {
                return CANNOT_BE;
            }
            int[] defences = bills[bill].defences;
            int defence = real ? REAL_DEFENCE : PERSONAL_DEFENCE;
            if ((defences[party] & defence) != 0) {
                return NOT_NOW;
            }
            defences[party] |= defence;
            return 0;
        }

        int presentOne(int bill) {
            if (!hasBill(bill)) {
                return CANNOT_BE;
            }
            Bill b = bills[bill];
            if (today < b.due || b.done || b.dishonour != NONE || !b.hasTitle()) {
                return NOT_NOW;
            }
            if (b.hasCash(0, cash) && b.whyNot(0, today) == 0) {
                b.settle(0, cash);
                payments++;
                return PAID;
            }
            b.dishonour = today;
            return DISHONOURED;
        }

        int giveNotice(int bill, int from, int to) {
            if (to < 1 || !hasSigner(bill, to) || from != NONE && !hasParty(bill, from)) {
                return CANNOT_BE;
            }
            Bill b = bills[bill];
            if (to >= (from == NONE ? b.rank() : from)) {
                return CANNOT_BE;
            }
            if (b.notified[to] != NONE || !b.canTell(from, today, graceDays)) {
                return NOT_NOW;
            }
            b.notified[to] = today;
            return 0;
        }

        int releaseOne(int bill, int party) {
            if (!hasSigner(bill, party)) {
                return CANNOT_BE;
            }
            Bill b = bills[bill];
            if (!b.hasTitle() || b.freedOf[party] != 0 || b.done) {
                return NOT_NOW;
            }
            b.free(party, RELEASED);
            return 0;
        }

        int payOne(int bill, int party) {
            if (!hasParty(bill, party)) {
                return CANNOT_BE;
            }
            Bill b = bills[bill];
            int reason = b.whyNot(party, today);
            if (reason != 0) {
                return reason;
            }
            if (!b.hasCash(party, cash)) {
                return NO_CASH;
            }
            b.settle(party, cash);
            payments++;
            return 0;
        }
    }

    /** The run of payments that would come, played on a copy. */
    private static final class Recourse {
        final Bill bill = new Bill();
        final int[] cash = new int[PEOPLE];
        final int[] payers = new int[MOST_PARTIES];
        int payments;

        void play(Bill from, int[] cashNow, int today) {
            bill.copy(from);
            System.arraycopy(cashNow, 0, cash, 0, PEOPLE);
            payments = 0;
            // who pays is freed, or the bill is done: no party pays twice
            for (int i = 0; i < MOST_PARTIES; i++) {
                int party = bill.greatestPayer(cash, today);
                if (party == NONE) {
                    return;
                }
                bill.settle(party, cash);
                payers[payments] = party;
                payments++;
            }
        }
    }

    /** How few forged steps, had they been true, would give the hand title. */
    private static final class Cure {
        private static final int FAR = 99;

        // one chain a step, so that trying both ways of a step needs no new object
        private final Chain[] trials = new Chain[MOST_STEPS + 1];

        Cure() {
            for (int i = 0; i <= MOST_STEPS; i++) {
                trials[i] = new Chain();
            }
        }

        int fewest(Bill b) {
            trials[b.startStep].copy(b.start);
            int few = fewestFrom(b, trials, b.startStep);
            return few < FAR ? few : NONE;
        }

        private static int fewestFrom(Bill b, Chain[] trials, int at) {
            Chain here = trials[at];
            if (here.brokenAt != NONE) {
                return FAR;
            }
            if (at >= b.stepCount || at >= MOST_STEPS) {
                return here.entitles(b.hand) ? 0 : FAR;
            }
            Step s = b.steps[at];
            Chain next = trials[at + 1];
            next.copy(here);
            next.follow(s, at, false);
            int few = fewestFrom(b, trials, at + 1);
            if (s.forged()) {
                next.copy(here);
                next.follow(s, at, true);
                few = Math.min(few, 1 + fewestFrom(b, trials, at + 1));
            }
            return few;
        }
    }

    /** The words with which a line begins, and what may follow each. */
    private enum Verb {
        DAY("day", 1, false, false),
        CASH("cash", 2, false, false),
        GRACE("grace", 1, false, false),
        DRAW("draw", 5, false, false),
        OPEN("open", 5, false, false),
        ACCEPT("accept", 1, false, false),
        BLANK("blank", 3, true, true),
        SPECIAL("special", 3, true, true),
        AGENT("agent", 3, true, true),
        DELIVER("deliver", 3, true, true),
        FORGE("forge", 4, true, false),
        FIND("find", 2, false, false),
        REAL("real", 2, false, false),
        PERSONAL("personal", 2, false, false),
        PRESENT("present", 1, false, false),
        HAND("hand", 2, false, false),
        NOTIFY("notify", 3, false, false),
        RELEASE("release", 2, false, false),
        PAY("pay", 2, false, false);

        final String word;
        final int numbers;
        final boolean mayNotice;
        final boolean mayWithout;

        Verb(String word, int numbers, boolean mayNotice, boolean mayWithout) {
            this.word = word;
            this.numbers = numbers;
            this.mayNotice = mayNotice;
            this.mayWithout = mayWithout;
        }
    }

    /** Reads a text line by line; where it stops short, its place is that of the fault. */
    private static final class Reader {
        private static final Verb[] VERBS = Verb.values();

        private static final int END = 0;
        private static final int WORD = 1;
        private static final int NUMBER = 2;
        private static final int SEMICOLON = 3;
        private static final int NO_TOKEN = 4;

        final int[] numbers = new int[MOST_NUMBERS];
        Verb verb = Verb.DAY;
        boolean notice;
        boolean without;

        private byte[] bytes = new byte[0];
        private int length;
        private int kind;
        private int place;
        private int behind;
        private int value;

        void open(byte[] tape, int size) {
            bytes = tape;
            length = Math.min(size, tape.length);
            behind = 0;
            move();
        }

        boolean atEnd() {
            return kind == END;
        }

        int faultPlace() {
            for (int i = 0; i <= length && kind != END; i++) {
                if (!readLine()) {
                    return place;
                }
            }
            return NONE;
        }

        boolean readLine() {
            if (!readVerb()) {
                return false;
            }
            for (int i = 0; i < verb.numbers && i < MOST_NUMBERS; i++) {
                if (kind != NUMBER) {
                    return false;
                }
                numbers[i] = value;
                move();
            }
            notice = verb.mayNotice && isWord("notice");
            if (notice) {
                move();
            }
            without = verb.mayWithout && isWord("without");
            if (without) {
                move();
            }
            if (kind != SEMICOLON) {
                return false;
            }
            move();
            return true;
        }

        private boolean readVerb() {
            for (int i = 0; i < VERBS.length; i++) {
                if (isWord(VERBS[i].word)) {
                    verb = VERBS[i];
                    move();
                    return true;
                }
            }
            return false;
        }

        private boolean isWord(String word) {
            if (kind != WORD || behind - place != word.length()) {
                return false;
            }
            for (int i = 0; i < word.length(); i++) {
                if (bytes[place + i] != word.charAt(i)) {
                    return false;
                }
            }
            return true;
        }

        private void move() {
            place = behind;
            while (place < length && (bytes[place] == 10 || bytes[place] == 32)) {
                place++;
            }
            behind = place;
            if (place >= length) {
                kind = END;
            } else if (isLetter(place)) {
                moveOverWord();
            } else if (isDigit(place)) {
                moveOverNumber();
            } else {
                kind = bytes[place] == ';' ? SEMICOLON : NO_TOKEN;
                behind = place + 1;
            }
        }

        private void moveOverWord() {
            kind = WORD;
            while (behind < length && isLetter(behind)) {
                behind++;
            }
        }

        private void moveOverNumber() {
            value = 0;
            while (behind < length && isDigit(behind)) {
                value = behind - place < 4 ? 10 * value + bytes[behind] - '0' : value;
                behind++;
            }
            kind = behind - place <= 4 ? NUMBER : NO_TOKEN;
        }

        private boolean isLetter(int at) {
            return bytes[at] >= 'a' && bytes[at] <= 'z';
        }

        private boolean isDigit(int at) {
            return bytes[at] >= '0' && bytes[at] <= '9';
        }
    }
}
