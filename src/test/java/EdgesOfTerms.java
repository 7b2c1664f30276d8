import java.util.function.Consumer;

/** The sentences of the document's terms that name a boundary case (too small, too large, empty, full, refused), each with a test of its own. */
public final class EdgesOfTerms extends Edges {
    // ---- what it is

    private static void whatItIs() {
        section = "What it is";
        edge("An object is used for at most 512 calls after it has been made", () -> {
            for (int i = 1; i < MOST_CALLS; i++) {
                is(30, x.day(0));
            }
            is(MOST_CALLS - 1, x.count(7));
        });
    }

    // ---- terms 1

    private static void termsOfPeople() {
        section = "Terms";
        edge("PEOPLE are 0 .. 7", () -> {
            all(0, x.cash(0, 1), x.cash(7, 1));
            all(30, x.cash(-1, 1), x.cash(8, 1), x.cash(MAX, 1), x.cash(MIN, 1));
            all(-30, x.draw(-1, 0, 0, 1, 0), x.draw(8, 0, 0, 1, 0), x.draw(0, -1, 0, 1, 0), x.draw(0, 8, 0, 1, 0), x.draw(0, 0, -1, 1, 0), x.draw(0, 0, 8, 1, 0));
            is(0, x.draw(0, 7, 7, 1, 0));
            is(1, x.draw(7, 0, 0, 1, 0));
            all(30, x.pass(0, 0, -1, 0, false), x.pass(0, 0, 8, 0, false), x.find(0, -1), x.find(0, 8));
            all(30, x.forge(0, -1, 1, 0, false), x.forge(0, 8, 1, 0, false), x.forge(0, 1, -1, 0, false), x.forge(0, 1, 8, 0, false));
            all(0, x.pass(0, 0, 0, 0, false), x.pass(1, 0, 7, 0, false), x.forge(0, 7, 1, 0, false), x.find(0, 7), x.forge(0, 0, 1, 0, false), x.find(0, 0));
        });
        edge("each has CASH (100 at first; 0 .. 9999)", () -> {
            for (int person = 0; person < 8; person++) {
                is(100, x.count(10 + person));
            }
            all(30, x.cash(3, -1), x.cash(3, 10000), x.cash(3, MAX), x.cash(3, MIN));
            is(100, x.count(13));
            is(0, x.cash(3, 0));
            is(0, x.count(13));
            is(0, x.cash(3, 9999));
            is(9999, x.count(13));
        });
        edge("TODAY is a day, 0 at first", () -> is(0, x.count(0)));
        edge("GRACE: 1 .. 9 days (2 at first)", () -> {
            is(2, x.count(2));
            all(30, x.grace(0), x.grace(10), x.grace(-1), x.grace(MAX), x.grace(MIN));
            is(2, x.count(2));
            is(0, x.grace(1));
            is(1, x.count(2));
            is(0, x.grace(9));
            is(9, x.count(2));
        });
    }

    private static void termsOfBills() {
        edge("At most 4 BILLS, numbered as they come", () -> {
            is(0, x.draw(0, 1, 2, 10, 0));
            is(-30, x.draw(0, 1, 2, 0, 0));
            for (int bill = 1; bill < 4; bill++) {
                is(bill, x.draw(0, 1, 2, 10 + bill, 0));
            }
            is(-30, x.draw(0, 1, 2, 10, 0));
            is(4, x.count(1));
            for (int bill = 0; bill < 4; bill++) {
                is(10 + bill, x.bill(bill, 3));
            }
            all(-2, x.bill(4, 3), x.bill(-1, 3));
        });
        edge("DRAWER, DRAWEE, PAYEE (PEOPLE, any of them may be one)", () -> {
            is(0, x.draw(3, 3, 3, 50, 0));
            all(3, x.bill(0, 0), x.bill(0, 1), x.bill(0, 2), x.bill(0, 7), x.bill(0, 13));
            is(1, x.bill(0, 18));
            is(0, x.accept(0));
            is(1, x.liable(0));
            is(0, x.pay(0, 0));
            is(100, x.count(13));
        });
        edge("a SUM, 1 .. 999, DUE (a day)", () -> {
            all(-30, x.draw(0, 1, 2, 0, 0), x.draw(0, 1, 2, 1000, 0), x.draw(0, 1, 2, -1, 0), x.draw(0, 1, 2, MAX, 0), x.draw(0, 1, 2, MIN, 0));
            is(0, x.draw(0, 1, 2, 1, 0));
            is(1, x.draw(0, 1, 2, 999, 0));
            is(1, x.bill(0, 3));
            is(999, x.bill(1, 3));
        });
        edge("OPEN, or not. Its HAND is who has it: the PAYEE at first.", () -> {
            x.draw(0, 1, 7, 5, 0);
            x.draw(0, 1, 10, 5, 0);
            is(0, x.bill(0, 5));
            is(7, x.bill(0, 7));
            is(1, x.bill(1, 5));
            is(0, x.bill(1, 7));
        });
        termsOfSteps();
        termsOfParties();
    }

    private static void termsOfSteps() {
        edge("STEPS of a BILL, 12 at most, from 0 on", () -> {
            toBearer(x);
            is(-2, x.step(0, 0, 0));
            for (int step = 0; step < 12; step++) {
                is(step, x.bill(0, 8));
                is(0, x.pass(0, 0, 3 + step % 2, 0, false));
                is(3 + step % 2, x.step(0, step, 3));
            }
            all(30, x.pass(0, 0, 7, 0, false), x.pass(0, 3, 7, 0, false), x.forge(0, 7, 6, 0, false), x.find(0, 7));
            is(12, x.bill(0, 8));
            is(4, x.bill(0, 7));
            all(-2, x.step(0, 12, 0), x.step(0, -1, 0));
            // another bill has its own
            toBearer(x);
            is(0, x.find(1, 7));
        });
        edge("SORT 0 blank, 1 special, 2 agent (these are ENDORSEMENTS), 3 delivery, 4 finding", () -> {
            toBearer(x);
            for (int sort = 0; sort < 4; sort++) {
                is(0, x.pass(0, sort, 3 + sort, 0, false));
            }
            x.find(0, 0);
            for (int sort = 0; sort < 5; sort++) {
                is(sort, x.step(0, sort, 0));
                is(sort < 3 ? 1 : 0, x.party(0, 2 + sort, 1));
            }
        });
        edge("BY (who did it: the HAND there was; of a finding nobody)", () -> {
            toBearer(x);
            x.pass(0, 3, 0, 0, false);
            x.forge(0, 5, 7, 0, false);
            x.find(0, 4);
            x.pass(0, 1, 6, 0, false);
            is(2, x.step(0, 0, 1));
            is(0, x.step(0, 1, 1));
            is(-1, x.step(0, 2, 1));
            is(4, x.step(0, 3, 1));
        });
        edge("NAME (whose name it bears: BY, but of one that is FORGED another one; of SORT 3, 4 none)", () -> {
            toBearer(x);
            x.pass(0, 2, 0, 0, false);
            x.forge(0, 5, 7, 0, false);
            x.pass(0, 3, 6, 0, false);
            x.find(0, 4);
            is(2, x.step(0, 0, 2));
            is(5, x.step(0, 1, 2));
            is(0, x.step(0, 1, 1));
            all(-1, x.step(0, 2, 2), x.step(0, 3, 2));
        });
        edge("TO (the HAND from then on), VALUE (0 .. 999)", () -> {
            toBearer(x);
            all(30, x.pass(0, 0, 3, -1, false), x.pass(0, 0, 3, 1000, false), x.pass(0, 0, 3, MAX, false), x.pass(0, 0, 3, MIN, false));
            all(30, x.forge(0, 1, 3, -1, false), x.forge(0, 1, 3, 1000, false), x.forge(0, 1, 3, MAX, false), x.forge(0, 1, 3, MIN, false));
            is(0, x.bill(0, 8));
            all(0, x.pass(0, 0, 3, 0, false), x.pass(0, 0, 4, 999, false), x.forge(0, 1, 5, 0, false), x.forge(0, 1, 6, 999, false));
            int[] due = {0, 999, 0, 999};
            for (int step = 0; step < 4; step++) {
                is(due[step], x.step(0, step, 4));
                is(3 + step, x.step(0, step, 3));
            }
            is(6, x.bill(0, 7));
        });
        edge("NOTICE or none, WITHOUT (recourse) or not, the day", () -> {
            toBearer(x);
            x.pass(0, 0, 3, 0, true);
            x.day(7);
            x.pass(0, 10, 4, 0, false);
            all(1, x.step(0, 0, 5), x.step(0, 1, 6));
            all(0, x.step(0, 0, 6), x.step(0, 0, 7), x.step(0, 1, 5));
            is(7, x.step(0, 1, 7));
        });
    }

    private static void termsOfParties() {
        edge("0 the ACCEPTOR (the DRAWEE, if it is ACCEPTED), 1 the DRAWER", () -> {
            x.draw(6, 7, 2, 50, 0);
            is(-1, x.party(0, 0, 0));
            is(0, x.party(0, 0, 1));
            x.accept(0);
            is(7, x.party(0, 0, 0));
            is(1, x.party(0, 0, 1));
            is(6, x.party(0, 1, 0));
            is(1, x.party(0, 1, 1));
        });
        edge("2 + k: the NAME of STEP k, if that is an ENDORSEMENT", () -> {
            toBearer(x);
            x.pass(0, 3, 3, 0, false);
            x.pass(0, 2, 4, 0, false);
            x.find(0, 5);
            is(-1, x.party(0, 2, 0));
            is(3, x.party(0, 3, 0));
            is(-1, x.party(0, 4, 0));
            is(-2, x.party(0, 5, 0));
        });
        edge("It is SIGNED by each of these but by one that is FORGED", () -> {
            toBearer(x);
            x.forge(0, 6, 3, 0, false);
            x.pass(0, 0, 4, 0, false);
            is(6, x.party(0, 2, 0));
            is(0, x.party(0, 2, 1));
            is(1, x.party(0, 3, 1));
        });
    }

    // ---- terms 2

    private static void termsOfTheChain() {
        edge("At first: BEARER, if it is OPEN, else ORDER of the PAYEE; its OWNER is the PAYEE, CLASS 1", () -> {
            toBearer(x);
            chain(1, -1, 2, 1, 0, -1);
            anew();
            toOrder(x);
            chain(0, 2, 2, 1, 0, -1);
        });
        edge("Once it is BROKEN nothing else of this changes", () -> {
            toOrder(x);
            // not loose ahead of it, and not by any later finding
            x.forge(0, 3, 4, 5, false);
            chain(0, 2, 2, 1, 0, 0);
            x.find(0, 6);
            chain(0, 2, 2, 1, 0, 0);
            x.pass(0, 3, 2, 5, false);
            x.pass(0, 0, 5, 5, false);
            x.pass(0, 1, 7, 5, false);
            x.forge(0, 2, 3, 5, false);
            chain(0, 2, 2, 1, 0, 0);
            is(2, x.step(0, 5, 8));
            is(13, x.why(0, 0, 2, 0));
            // loose ahead of it, and so for ever
            anew();
            toOrder(x);
            x.find(0, 3);
            x.forge(0, 2, 4, 5, false);
            chain(0, 2, 2, 1, 1, 1);
            x.pass(0, 3, 2, 0, false);
            chain(0, 2, 2, 1, 1, 1);
            x.forge(0, 4, 5, 0, false);
            chain(0, 2, 2, 1, 1, 1);
            is(12, x.why(0, 0, 2, 0));
        });
        edge("A finding: it is LOOSE", () -> {
            toBearer(x);
            x.find(0, 3);
            chain(1, -1, 2, 1, 1, -1);
            // by the owner himself, too
            x.find(0, 2);
            chain(1, -1, 2, 1, 1, -1);
            is(0, x.bill(0, 17));
        });
        edge("A delivery: to BEARER: TO GETS it; else it is LOOSE", () -> {
            toBearer(x);
            x.pass(0, 3, 3, 5, false);
            chain(1, -1, 3, 3, 0, -1);
            anew();
            toOrder(x);
            x.pass(0, 3, 3, 5, false);
            chain(0, 2, 2, 1, 1, -1);
            anew();
            toOrder(x);
            x.pass(0, 2, 5, 5, false);
            x.pass(0, 3, 3, 5, false);
            chain(2, 5, 2, 1, 1, -1);
        });
        edge("but if TO is OWNER and it is payable to ORDER of TO, or to the AGENT TO, it isn't", () -> {
            toOrder(x);
            x.pass(0, 3, 3, 0, false);
            x.find(0, 4);
            x.pass(0, 3, 2, 0, true);
            chain(0, 2, 2, 1, 0, -1);
            // the owner, but it is to another agent; then that agent
            x.pass(0, 2, 5, 0, false);
            x.pass(0, 3, 2, 0, false);
            chain(2, 5, 2, 1, 1, -1);
            x.pass(0, 3, 5, 0, false);
            chain(2, 5, 2, 1, 0, -1);
            // to order of one who is not the owner: of neither of them it is loose no more
            anew();
            toBearer(x);
            x.find(0, 3);
            x.pass(0, 1, 4, 0, false);
            x.pass(0, 3, 2, 0, false);
            chain(0, 4, 2, 1, 1, -1);
            x.pass(0, 3, 4, 0, false);
            chain(0, 4, 2, 1, 1, -1);
        });
        termsOfEndorsing();
    }

    private static void termsOfEndorsing() {
        edge("to ORDER of one, or an AGENT: if NAME is another one it is BROKEN, WRONG", () -> {
            toOrder(x);
            x.find(0, 3);
            x.pass(0, 0, 4, 5, false);
            chain(0, 2, 2, 1, 1, 1);
            is(13, x.why(0, 0, 2, 0));
            anew();
            toOrder(x);
            x.pass(0, 2, 5, 5, false);
            x.pass(0, 3, 2, 5, false);
            // the owner himself is another one than his agent
            x.pass(0, 1, 4, 5, false);
            chain(2, 5, 2, 1, 1, 2);
            is(13, x.why(0, 0, 2, 0));
            // in a third one's name it is wrong, not forged
            anew();
            toOrder(x);
            x.forge(0, 6, 3, 5, false);
            is(13, x.why(0, 0, 2, 0));
            // to bearer any name will do
            anew();
            toBearer(x);
            x.forge(0, 6, 3, 5, false);
            chain(0, 3, 3, 3, 0, -1);
        });
        edge("else, if BY is not NAME, it is BROKEN, FORGED", () -> {
            toOrder(x);
            x.pass(0, 3, 3, 0, false);
            x.forge(0, 2, 4, 5, false);
            chain(0, 2, 2, 1, 1, 1);
            is(12, x.why(0, 0, 2, 0));
            anew();
            toOrder(x);
            x.pass(0, 2, 5, 5, false);
            x.find(0, 6);
            x.forge(0, 5, 4, 5, false);
            chain(2, 5, 2, 1, 1, 2);
            is(12, x.why(0, 0, 2, 0));
        });
        edge("to an AGENT (of whatever SORT it is): it is payable to the AGENT TO", () -> {
            toOrder(x);
            x.pass(0, 2, 5, 5, false);
            for (int sort = 0; sort < 3; sort++) {
                is(0, x.pass(0, sort, 6 - sort % 2, 5, false));
                chain(2, 6 - sort % 2, 2, 1, 0, -1);
                is(1, x.bill(0, 17));
                x.pass(0, 2, 7, 5, false);
            }
        });
        edge("of SORT 0 it is payable to BEARER, of SORT 1 to ORDER of TO, of SORT 2 to the AGENT TO", () -> {
            int[][] due = {{1, -1}, {0, 3}, {2, 3}};
            for (int sort = 0; sort < 3; sort++) {
                anew();
                toOrder(x);
                x.pass(0, sort, 3, 0, false);
                chain(due[sort]);
                anew();
                toBearer(x);
                x.pass(0, sort, 3, 0, false);
                chain(due[sort]);
            }
        });
        edge("of SORT 0, 1 TO GETS it", () -> {
            for (int sort = 0; sort < 3; sort++) {
                anew();
                toBearer(x);
                x.pass(0, sort, 3, 5, false);
                is(sort < 2 ? 3 : 2, x.bill(0, 13));
                is(sort < 2 ? 3 : 1, x.bill(0, 14));
            }
            // and of an agency nobody gets anything: what was loose is so still
            anew();
            toBearer(x);
            x.find(0, 3);
            x.pass(0, 2, 4, 5, false);
            chain(2, 4, 2, 1, 1, -1);
            x.pass(0, 1, 2, 5, false);
            chain(2, 2, 2, 1, 1, -1);
        });
    }

    private static void termsOfGetting() {
        edge("IN DUE COURSE, if VALUE is above 0", () -> {
            toBearer(x);
            x.pass(0, 3, 3, 0, false);
            is(1, x.bill(0, 14));
            x.pass(0, 3, 4, 1, false);
            is(3, x.bill(0, 14));
        });
        edge("there was no NOTICE", () -> {
            toBearer(x);
            x.pass(0, 3, 3, 999, true);
            is(1, x.bill(0, 14));
            x.pass(0, 3, 4, 999, false);
            is(3, x.bill(0, 14));
        });
        edge("the day is not behind DUE", () -> {
            x.draw(0, 1, 12, 50, 1);
            x.draw(0, 1, 12, 50, 1);
            x.day(1);
            x.pass(0, 3, 3, 1, false);
            is(3, x.bill(0, 14));
            x.day(1);
            x.pass(1, 3, 3, 1, false);
            is(1, x.bill(1, 14));
        });
        edge("and it was not DISHONOURED then", () -> {
            toBearer(x);
            x.pass(0, 3, 3, 1, false);
            is(1, x.present(0));
            x.pass(0, 3, 4, 1, false);
            // both on one day: the first one ahead of the dishonour, the second one behind it
            is(3, x.step(0, 0, 9));
            is(2, x.bill(0, 14));
        });
        edge("If it is LOOSE: if TO is OWNER, it is LOOSE no more", () -> {
            toBearer(x);
            x.pass(0, 3, 4, 5, false);
            x.find(0, 3);
            x.pass(0, 3, 4, 0, true);
            chain(1, -1, 4, 3, 0, -1);
            x.find(0, 3);
            x.pass(0, 1, 4, 0, true);
            chain(0, 4, 4, 3, 0, -1);
        });
        edge("else, IN DUE COURSE: TO is OWNER, CLASS 3, it is LOOSE no more", () -> {
            toBearer(x);
            x.pass(0, 3, 4, 0, false);
            x.find(0, 3);
            x.pass(0, 3, 2, 1, false);
            // 2 was owner before with class 1, and is so now with 3
            chain(1, -1, 2, 3, 0, -1);
            x.pass(0, 3, 4, 1, false);
            x.pass(0, 3, 2, 1, false);
            // but first it was 1
            chain(1, -1, 2, 1, 0, -1);
        });
        edge("else nothing. If it isn't: TO is OWNER", () -> {
            toBearer(x);
            x.find(0, 3);
            x.pass(0, 3, 4, 0, false);
            chain(1, -1, 2, 1, 1, -1);
            x.pass(0, 3, 5, 9, true);
            chain(1, -1, 2, 1, 1, -1);
            x.day(1);
            x.pass(0, 3, 6, 9, false);
            chain(1, -1, 2, 1, 1, -1);
            anew();
            toBearer(x);
            x.pass(0, 3, 4, 0, true);
            chain(1, -1, 4, 1, 0, -1);
        });
        termsOfClasses();
    }

    private static void termsOfClasses() {
        edge("if TO was OWNER already (the PAYEE at first, too), the CLASS is what TO's was then first", () -> {
            toBearer(x);
            x.pass(0, 3, 3, 5, false);
            x.pass(0, 3, 2, 5, false);
            is(1, x.bill(0, 14));
            x.pass(0, 3, 3, 0, true);
            is(3, x.bill(0, 14));
            x.pass(0, 3, 4, 0, false);
            is(2, x.bill(0, 14));
            x.pass(0, 3, 2, 0, false);
            x.pass(0, 3, 4, 5, false);
            is(2, x.bill(0, 14));
        });
        edge("else it is 3 IN DUE COURSE, else 2, if it was 2 or 3, else 1", () -> {
            toBearer(x);
            x.pass(0, 3, 3, 0, false);
            is(1, x.bill(0, 14));
            x.pass(0, 3, 4, 5, false);
            is(3, x.bill(0, 14));
            x.pass(0, 3, 5, 0, false);
            is(2, x.bill(0, 14));
            x.pass(0, 3, 6, 5, true);
            is(2, x.bill(0, 14));
            x.pass(0, 3, 7, 5, false);
            is(3, x.bill(0, 14));
        });
    }

    private static void termsOfTitle() {
        edge("TITLE: the HAND has it, if it is not BROKEN, not LOOSE", () -> {
            toBearer(x);
            is(1, x.bill(0, 17));
            x.find(0, 3);
            is(0, x.bill(0, 17));
            anew();
            toOrder(x);
            is(1, x.bill(0, 17));
            x.forge(0, 5, 3, 1, false);
            is(0, x.bill(0, 15));
            is(0, x.bill(0, 17));
            // though it comes back to the one to whose order it was
            x.pass(0, 3, 2, 1, false);
            is(0, x.bill(0, 17));
        });
        edge("and payable to BEARER, to ORDER of HAND, or to the AGENT HAND", () -> {
            for (int sort = 0; sort < 3; sort++) {
                anew();
                toOrder(x);
                x.pass(0, sort, 3, 1, false);
                is(1, x.bill(0, 17));
                x.pass(0, 3, 4, 1, false);
                is(sort == 0 ? 1 : 0, x.bill(0, 17));
            }
        });
        edge("Behind a taking up, see below, it is payable to ORDER of who took it up, who is OWNER", () -> {
            toBearer(x);
            x.pass(0, 0, 3, 5, false);
            x.pass(0, 2, 4, 5, false);
            x.pass(0, 0, 5, 5, false);
            x.present(0);
            x.tell(0, -1, 4);
            // the agent pays, who never owned it
            is(3, x.bill(0, 13));
            is(0, x.pay(0, 4));
            chain(0, 4, 4, 1, 0, -1);
            is(4, x.bill(0, 7));
            is(1, x.bill(0, 17));
        });
        edge("CLASS: what his was first, 1 if he never was OWNER; neither LOOSE nor BROKEN", () -> {
            toBearer(x);
            x.pass(0, 0, 3, 5, false);
            x.pass(0, 0, 4, 0, false);
            x.pass(0, 0, 5, 0, false);
            x.present(0);
            for (int party = 1; party < 5; party++) {
                x.tell(0, -1, party);
            }
            int[] people = {4, 3, 2, 0};
            int[] classes = {2, 3, 1, 1};
            for (int i = 0; i < 4; i++) {
                is(0, x.pay(0, 4 - i));
                chain(0, people[i], people[i], classes[i], 0, -1);
            }
        });
        edge("the CHAIN goes on from there by STEPS that are done behind it", () -> {
            toBearer(x);
            x.pass(0, 0, 3, 5, false);
            x.present(0);
            x.tell(0, -1, 1);
            x.pay(0, 1);
            is(3, x.step(0, 0, 8));
            // to order of 0 alone, though it was to bearer
            x.pass(0, 3, 6, 5, false);
            chain(0, 0, 0, 1, 1, -1);
            x.pass(0, 3, 0, 5, false);
            chain(0, 0, 0, 1, 0, -1);
            x.pass(0, 1, 3, 0, false);
            chain(0, 3, 3, 3, 0, -1);
            x.pass(0, 1, 0, 5, false);
            chain(0, 0, 0, 1, 0, -1);
            x.find(0, 5);
            x.pass(0, 0, 6, 5, false);
            chain(0, 0, 0, 1, 1, 6);
        });
    }

    // ---- terms 3

    private static void termsOfRefusal() {
        edge("each is done, or REFUSED; nothing changes then but that it is told", () -> {
            Consumer<BillRegistry> none = r -> { };
            refuses(30, none, r -> r.day(0), r -> r.cash(8, 5), r -> r.grace(0), r -> r.draw(0, 1, 2, 0, 0), r -> r.accept(0), r -> r.pass(0, 0, 1, 1, false),
                    r -> r.forge(0, 1, 2, 1, false), r -> r.find(0, 1), r -> r.defend(0, 1, true), r -> r.present(0), r -> r.tell(0, -1, 1),
                    r -> r.release(0, 1), r -> r.pay(0, 1));
            refuses(31, Edges::done, r -> r.accept(0), r -> r.pass(0, 0, 3, 9, true), r -> r.forge(0, 1, 3, 9, true), r -> r.find(0, 3),
                    r -> r.present(0), r -> r.tell(0, -1, 1), r -> r.release(0, 1));
            refuses(2, Edges::done, r -> r.pay(0, 0), r -> r.pay(0, 1));
        });
        edge("reasons 30, ahead of all others: a number that can't be (no such BILL, PERSON, PARTY; too many); 31: not now", () -> {
            refuses(30, Edges::done, r -> r.accept(1), r -> r.pass(0, 0, 2, 0, false), r -> r.pass(0, 4, 3, 0, false), r -> r.pass(0, 0, 8, 0, false),
                    r -> r.pass(0, 0, 3, 1000, false), r -> r.forge(0, 2, 3, 0, false), r -> r.forge(0, 8, 3, 0, false), r -> r.forge(0, 1, 2, 0, false),
                    r -> r.forge(0, 1, 3, -1, false), r -> r.find(0, 2), r -> r.find(0, 8), r -> r.present(1), r -> r.tell(0, -1, 0), r -> r.tell(0, -1, 2),
                    r -> r.tell(0, 1, 1), r -> r.release(0, 2), r -> r.pay(0, 2), r -> r.pay(0, -1));
            // full and done
            refuses(30, r -> {
                r.draw(0, 1, 12, 50, 0);
                r.accept(0);
                for (int i = 0; i < 12; i++) {
                    r.pass(0, 0, 3 + i % 2, 0, false);
                }
                r.present(0);
            }, r -> r.pass(0, 0, 7, 0, false), r -> r.forge(0, 1, 7, 0, false), r -> r.find(0, 7));
            // without title, not dishonoured
            refuses(30, r -> {
                toOrder(r);
                r.find(0, 3);
            }, r -> r.pay(0, 3), r -> r.release(0, 0), r -> r.release(0, 2), r -> r.release(0, 3), r -> r.tell(0, -1, 2), r -> r.tell(0, 3, 1));
        });
        edge("DAY: n days (1 .. 99) go by; TODAY is 999 at most (30)", () -> {
            all(30, x.day(0), x.day(-1), x.day(100), x.day(MAX), x.day(MIN));
            is(0, x.count(0));
            is(0, x.day(1));
            // where the sum of the days would wrap around
            all(30, x.day(MAX), x.day(MIN));
            is(0, x.day(99));
            is(100, x.count(0));
            days(x, 899);
            is(999, x.count(0));
            all(30, x.day(1), x.day(99));
            is(999, x.count(0));
            refuses(30, r -> days(r, 901), r -> r.day(99));
            anew();
            days(x, 900);
            is(0, x.day(99));
            is(999, x.count(0));
        });
        edge("CASH: of a PERSON is so much. GRACE likewise.", () -> {
            is(0, x.cash(7, 3));
            is(3, x.count(17));
            is(703, x.count(3));
            is(0, x.cash(7, 2));
            is(2, x.count(17));
            is(0, x.grace(5));
            is(5, x.count(2));
        });
        edge("DRAW: a BILL; DUE is so many days (0 .. 99) behind TODAY", () -> {
            all(-30, x.draw(0, 1, 2, 5, -1), x.draw(0, 1, 2, 5, 100), x.draw(0, 1, 2, 5, MAX), x.draw(0, 1, 2, 5, MIN));
            is(0, x.draw(0, 1, 2, 5, 0));
            is(0, x.bill(0, 4));
            days(x, 999);
            is(1, x.draw(0, 1, 2, 5, 0));
            is(999, x.bill(1, 4));
            // a day that never comes
            is(2, x.draw(0, 1, 2, 5, 99));
            is(1098, x.bill(2, 4));
            is(31, x.present(2));
        });
        edge("ACCEPT: 31: it is so already, DISHONOURED, or DONE", () -> {
            refuses(31, r -> {
                toOrder(r);
                r.accept(0);
            }, r -> r.accept(0));
            refuses(31, Edges::dishonoured, r -> r.accept(0));
            refuses(31, Edges::done, r -> r.accept(0));
            // in another one's hand, behind its day, broken: all the same
            toOrder(x);
            x.find(0, 3);
            x.pass(0, 0, 4, 5, false);
            x.day(5);
            is(0, x.accept(0));
        });
        termsOfPassing();
    }

    private static void termsOfPassing() {
        edge("PASS (SORT 0 to 3; WITHOUT not by SORT 3)", () -> {
            refuses(30, Edges::toBearer, r -> r.pass(0, -1, 3, 0, false), r -> r.pass(0, 4, 3, 0, false), r -> r.pass(0, 5, 3, 0, false),
                    r -> r.pass(0, 9, 3, 0, false), r -> r.pass(0, 13, 3, 0, false), r -> r.pass(0, 14, 3, 0, false), r -> r.pass(0, 20, 3, 0, false),
                    r -> r.pass(0, -7, 3, 0, false), r -> r.pass(0, MAX, 3, 0, false), r -> r.pass(0, MIN, 3, 0, false));
            toBearer(x);
            for (int sort = 0; sort < 4; sort++) {
                is(0, x.pass(0, sort, 3 + sort, 0, false));
                is(0, x.step(0, sort, 6));
            }
            anew();
            toBearer(x);
            for (int sort = 0; sort < 3; sort++) {
                is(0, x.pass(0, 10 + sort, 3 + sort, 0, false));
                is(sort, x.step(0, sort, 0));
                is(1, x.step(0, sort, 6));
            }
        });
        edge("FORGE (SORT 1, with a NAME other than the HAND)", () -> {
            refuses(30, Edges::toBearer, r -> r.forge(0, 2, 3, 0, false));
            toBearer(x);
            // in the name of the one to whom it goes, too
            is(0, x.forge(0, 3, 3, 0, false));
            is(1, x.step(0, 0, 0));
            is(0, x.step(0, 0, 6));
            is(1, x.sorts(0, 5));
            all(30, x.forge(0, 3, 4, 0, false));
            is(0, x.forge(0, 2, 4, 0, true));
            is(1, x.step(0, 1, 5));
        });
        edge("FIND (SORT 4; VALUE 0, no NOTICE): a STEP of TODAY", () -> {
            toBearer(x);
            // a step that was there in an earlier life of the object leaves nothing
            x.pass(0, 10, 3, 9, true);
            x.text(true);
            toBearer(x);
            x.day(4);
            is(0, x.find(0, 5));
            int[] due = {4, -1, -1, 5, 0, 0, 0, 4, 2, 1};
            for (int what = 0; what < 10; what++) {
                is(due[what], x.step(0, 0, what));
            }
        });
        edge("30: also TO is the HAND, or there are 12; 31: it is DONE", () -> {
            refuses(30, Edges::toBearer, r -> r.pass(0, 0, 2, 5, false), r -> r.pass(0, 3, 2, 5, false), r -> r.forge(0, 1, 2, 5, false), r -> r.find(0, 2));
            refuses(30, Edges::full, r -> r.pass(0, 0, 7, 5, false), r -> r.pass(0, 3, 7, 5, false), r -> r.forge(0, 1, 7, 5, false), r -> r.find(0, 7));
            refuses(31, Edges::done, r -> r.pass(0, 0, 7, 5, false), r -> r.pass(0, 3, 7, 5, false), r -> r.forge(0, 1, 7, 5, false), r -> r.find(0, 7));
            // dishonoured is not done
            dishonoured(x);
            all(0, x.pass(0, 1, 7, 5, false), x.forge(0, 1, 6, 5, false), x.find(0, 7));
        });
        edge("DEFEND: a PARTY that SIGNED has a DEFENCE, REAL or personal, from then on; 30: also it did not sign; 31: it has it already", () -> {
            Consumer<BillRegistry> ahead = r -> {
                toBearer(r);
                r.forge(0, 6, 3, 0, false);
                r.pass(0, 3, 4, 0, false);
                r.pass(0, 0, 5, 0, false);
                r.find(0, 6);
            };
            refuses(30, ahead, r -> r.defend(0, 0, true), r -> r.defend(0, 2, false), r -> r.defend(0, 3, true), r -> r.defend(0, 5, false),
                    r -> r.defend(0, 6, true), r -> r.defend(0, -1, true), r -> r.defend(1, 1, true), r -> r.defend(-1, 1, true));
            refuses(31, ahead.andThen(r -> r.defend(0, 4, true)).andThen(r -> r.defend(0, 1, false)), r -> r.defend(0, 4, true), r -> r.defend(0, 1, false));
            ahead.accept(x);
            all(0, x.defend(0, 1, false), x.defend(0, 4, true));
            is(2, x.party(0, 1, 4));
            is(1, x.party(0, 4, 4));
            all(0, x.defend(0, 1, true), x.defend(0, 4, false));
            all(3, x.party(0, 1, 4), x.party(0, 4, 4));
        });
    }

    private static void termsOfPresenting() {
        edge("PRESENT: by the HAND; 31: TODAY is ahead of DUE, it is DONE or DISHONOURED, or HAND has no TITLE", () -> {
            Consumer<BillRegistry> soon = r -> {
                r.draw(0, 1, 2, 50, 2);
                r.accept(0);
                r.day(1);
            };
            refuses(31, soon, r -> r.present(0));
            refuses(31, Edges::done, r -> r.present(0));
            refuses(31, Edges::dishonoured, r -> r.present(0));
            refuses(31, r -> {
                toBearer(r);
                r.accept(0);
                r.find(0, 3);
            }, r -> r.present(0));
            refuses(31, r -> {
                toOrder(r);
                r.accept(0);
                r.forge(0, 7, 3, 5, false);
            }, r -> r.present(0));
            refuses(30, soon, r -> r.present(1), r -> r.present(-1), r -> r.present(MAX), r -> r.present(MIN));
            soon.accept(x);
            x.day(1);
            is(0, x.present(0));
            anew();
            soon.accept(x);
            x.day(99);
            is(0, x.present(0));
        });
        edge("If PARTY 0 is LIABLE, and has CASH, it is paid (as by PAY), else it is DISHONOURED, TODAY", () -> {
            toOrder(x);
            x.accept(0);
            x.cash(1, 50);
            is(0, x.present(0));
            is(0, x.count(11));
            is(150, x.count(12));
            all(1, x.count(4), x.count(6), x.bill(0, 10));
            all(0, x.count(5), x.refused());
            is(-1, x.bill(0, 9));
            // one too little
            anew();
            toOrder(x);
            x.accept(0);
            x.cash(1, 49);
            x.day(3);
            is(1, x.present(0));
            is(49, x.count(11));
            is(3, x.bill(0, 9));
            is(1, x.count(5));
            all(0, x.count(4), x.count(6), x.refused());
            presentedInVain(r -> { });
            presentedInVain(r -> {
                r.accept(0);
                r.release(0, 0);
            });
            presentedInVain(r -> {
                r.accept(0);
                r.defend(0, 0, true);
            });
            presentedInVain(r -> {
                r.accept(0);
                r.defend(0, 0, false);
            });
            // a personal defence holds against class 1 alone
            anew();
            toOrder(x);
            x.accept(0);
            x.defend(0, 0, false);
            x.pass(0, 1, 3, 5, false);
            is(0, x.present(0));
        });
    }

    private static void presentedInVain(Consumer<BillRegistry> ahead) {
        anew();
        toOrder(x);
        ahead.accept(x);
        is(1, x.present(0));
        is(0, x.bill(0, 9));
        is(800, x.count(3));
        is(0, x.count(4));
    }

    private static void termsOfNotices() {
        edge("NOTIFY: from a PARTY, or NONE: from HAND, to a PARTY, 1 or more, that SIGNED: it is NOTIFIED, TODAY", () -> {
            dishonoured(x);
            x.day(1);
            is(0, x.tell(0, -1, 4));
            is(1, x.party(0, 4, 2));
            x.day(2);
            is(0, x.tell(0, 4, 1));
            is(3, x.party(0, 1, 2));
            all(-1, x.party(0, 0, 2), x.party(0, 2, 2), x.party(0, 3, 2));
            refuses(30, r -> {
                toOrder(r);
                r.accept(0);
                r.cash(1, 0);
                r.present(0);
            }, r -> r.tell(0, -1, 0), r -> r.tell(0, 1, 0), r -> r.tell(0, -1, -1), r -> r.tell(0, -1, 2), r -> r.tell(0, -2, 1), r -> r.tell(0, 2, 1),
                    r -> r.tell(0, MIN, 1), r -> r.tell(0, MAX, 1), r -> r.tell(1, -1, 1), r -> r.tell(-1, -1, 1));
        });
        edge("30: also it did not sign, or it is no lesser PARTY than the one from whom it comes (of HAND: than RANK)", () -> {
            Consumer<BillRegistry> ahead = r -> {
                toBearer(r);
                r.pass(0, 0, 3, 5, false);
                r.forge(0, 7, 4, 5, false);
                r.pass(0, 0, 5, 5, false);
                r.pass(0, 3, 6, 5, false);
                r.pass(0, 0, 4, 5, false);
                r.present(0);
                r.tell(0, -1, 2);
            };
            // 4 has it again, whose rank is 4
            refuses(30, ahead, r -> r.tell(0, -1, 3), r -> r.tell(0, -1, 5), r -> r.tell(0, -1, 4), r -> r.tell(0, -1, 6), r -> r.tell(0, 2, 2),
                    r -> r.tell(0, 2, 4), r -> r.tell(0, 6, 6), r -> r.tell(0, 0, 1), r -> r.tell(0, 1, 1));
            ahead.accept(x);
            is(0, x.tell(0, -1, 1));
        });
        edge("31: it is not DISHONOURED; it is NOTIFIED already; who tells was not NOTIFIED (of HAND: has no TITLE)", () -> {
            refuses(31, r -> {
                toOrder(r);
                r.pass(0, 1, 3, 5, false);
            }, r -> r.tell(0, -1, 1), r -> r.tell(0, -1, 2), r -> r.tell(0, 2, 1));
            Consumer<BillRegistry> told = r -> {
                dishonoured(r);
                r.tell(0, -1, 2);
                r.day(1);
            };
            refuses(31, told, r -> r.tell(0, -1, 2), r -> r.tell(0, 3, 1), r -> r.tell(0, 4, 3));
            refuses(31, told.andThen(r -> r.find(0, 7)), r -> r.tell(0, -1, 1), r -> r.tell(0, -1, 3));
            told.accept(x);
            x.find(0, 7);
            is(0, x.tell(0, 2, 1));
        });
        edge("or TODAY is more than GRACE days behind the day of that (of HAND: of the dishonour)", () -> {
            dishonoured(x);
            x.day(2);
            is(0, x.tell(0, -1, 4));
            x.day(2);
            is(0, x.tell(0, 4, 3));
            refuses(31, r -> {
                dishonoured(r);
                r.day(3);
            }, r -> r.tell(0, -1, 4));
            refuses(31, r -> {
                dishonoured(r);
                r.day(2);
                r.tell(0, -1, 4);
                r.day(3);
            }, r -> r.tell(0, 4, 3), r -> r.tell(0, -1, 3));
            anew();
            x.grace(9);
            dishonoured(x);
            x.day(9);
            is(0, x.tell(0, -1, 4));
            x.day(1);
            is(31, x.tell(0, -1, 3));
            anew();
            x.grace(1);
            dishonoured(x);
            x.day(2);
            is(31, x.tell(0, -1, 4));
            // the grace of today counts, not that of the dishonour
            x.grace(2);
            is(0, x.tell(0, -1, 4));
        });
    }

    private static void termsOfReleasing() {
        edge("RELEASE: by HAND, of a PARTY that SIGNED: it, and all greater PARTIES, are FREED (if they aren't yet)", () -> {
            dishonoured(x);
            is(0, x.release(0, 3));
            int[] first = {0, 0, 0, 1, 1};
            for (int party = 0; party < 5; party++) {
                is(first[party], x.party(0, party, 3));
            }
            is(0, x.release(0, 1));
            int[] then = {0, 1, 1, 1, 1};
            int[] by = {0, 1, 1, 3, 3};
            for (int party = 0; party < 5; party++) {
                is(then[party], x.party(0, party, 3));
                is(by[party], party == 0 ? 0 : x.why(0, party, 1, 1));
            }
            // the least of them and the greatest
            anew();
            toOrder(x);
            x.accept(0);
            x.pass(0, 1, 3, 5, false);
            is(0, x.release(0, 2));
            all(0, x.party(0, 0, 3), x.party(0, 1, 3));
            is(0, x.release(0, 0));
            all(1, x.party(0, 0, 3), x.party(0, 1, 3), x.party(0, 2, 3));
            // who signs later is not freed
            x.pass(0, 1, 4, 5, false);
            is(0, x.party(0, 3, 3));
            is(0, x.release(0, 3));
        });
        edge("30: also it did not sign; 31: HAND has no TITLE, it is FREED already, or the BILL is DONE", () -> {
            Consumer<BillRegistry> ahead = r -> {
                toBearer(r);
                r.forge(0, 6, 3, 0, false);
                r.pass(0, 0, 4, 0, false);
                r.pass(0, 3, 5, 0, false);
            };
            refuses(30, ahead, r -> r.release(0, 0), r -> r.release(0, 2), r -> r.release(0, 4), r -> r.release(0, 5), r -> r.release(0, -1),
                    r -> r.release(1, 1), r -> r.release(-1, 1), r -> r.release(0, MAX), r -> r.release(0, MIN));
            refuses(31, ahead.andThen(r -> r.find(0, 7)), r -> r.release(0, 1), r -> r.release(0, 3));
            refuses(31, ahead.andThen(r -> r.release(0, 3)), r -> r.release(0, 3));
            refuses(31, ahead.andThen(r -> r.release(0, 1)), r -> r.release(0, 1), r -> r.release(0, 3));
            refuses(31, Edges::done, r -> r.release(0, 0), r -> r.release(0, 1));
            // who paid is freed, and so are all behind him
            refuses(31, r -> {
                allTold(r);
                r.pay(0, 3);
            }, r -> r.release(0, 3), r -> r.release(0, 4));
        });
    }

    private static void termsOfPaying() {
        edge("PAY by a PARTY: if it is not LIABLE: the reasons of that; 32: it has less CASH than the SUM", () -> {
            refuses(1, r -> {
                toBearer(r);
                r.accept(0);
                r.find(0, 3);
            }, r -> r.pay(0, 0), r -> r.pay(0, 1), r -> r.pay(0, 2));
            refuses(2, Edges::done, r -> r.pay(0, 0), r -> r.pay(0, 1));
            refuses(3, Edges::dishonoured, r -> r.pay(0, 0));
            refuses(4, r -> {
                allTold(r);
                r.pass(0, 1, 3, 5, false);
            }, r -> r.pay(0, 3), r -> r.pay(0, 4), r -> r.pay(0, 5));
            refuses(5, r -> {
                allTold(r);
                r.release(0, 2);
            }, r -> r.pay(0, 2), r -> r.pay(0, 3), r -> r.pay(0, 4));
            refuses(6, r -> {
                toOrder(r);
                r.pass(0, 11, 3, 5, false);
            }, r -> r.pay(0, 2));
            refuses(7, r -> r.draw(0, 1, 2, 50, 1), r -> r.pay(0, 1));
            refuses(8, Edges::dishonoured, r -> r.pay(0, 1), r -> r.pay(0, 4));
            refuses(9, r -> {
                allTold(r);
                r.defend(0, 1, true);
            }, r -> r.pay(0, 1));
            refuses(32, r -> {
                allTold(r);
                r.cash(0, 49);
                r.cash(4, 0);
            }, r -> r.pay(0, 1), r -> r.pay(0, 4));
            refuses(30, Edges::allTold, r -> r.pay(0, 5), r -> r.pay(0, -1), r -> r.pay(1, 1), r -> r.pay(-1, 1), r -> r.pay(0, MAX), r -> r.pay(0, MIN));
            allTold(x);
            x.cash(4, 50);
            is(0, x.pay(0, 4));
            is(0, x.count(14));
        });
        edge("SUM goes from its CASH to that of HAND (9999 at most)", () -> {
            allTold(x);
            is(0, x.pay(0, 3));
            is(50, x.count(13));
            is(150, x.count(15));
            is(800, x.count(3));
            int[] had = {9949, 9950, 9999};
            int[] has = {9999, 9999, 9999};
            for (int i = 0; i < 3; i++) {
                anew();
                allTold(x);
                x.cash(5, had[i]);
                is(0, x.pay(0, 1));
                is(has[i], x.count(15));
                is(50, x.count(10));
            }
            // from the same hand into it
            anew();
            x.draw(0, 1, 1, 999, 0);
            x.accept(0);
            x.cash(1, 9999);
            is(0, x.pay(0, 0));
            is(9999, x.count(11));
        });
        edge("PARTY 0: the BILL is DONE. Else it is TAKEN UP: HAND is who paid", () -> {
            toOrder(x);
            x.accept(0);
            is(0, x.pay(0, 0));
            is(1, x.bill(0, 10));
            is(2, x.bill(0, 7));
            is(0, x.party(0, 0, 3));
            anew();
            allTold(x);
            is(0, x.pay(0, 1));
            is(0, x.bill(0, 10));
            is(0, x.bill(0, 7));
        });
        edge("that PARTY and all greater ones are FREED (if they aren't yet)", () -> {
            allTold(x);
            x.release(0, 4);
            is(0, x.pay(0, 2));
            int[] freed = {0, 0, 1, 1, 1};
            for (int party = 0; party < 5; party++) {
                is(freed[party], x.party(0, party, 3));
            }
            // seen from one behind them all
            x.pass(0, 1, 7, 5, false);
            is(0, x.party(0, 5, 3));
            all(16, x.why(0, 2, 1, 0), x.why(0, 3, 1, 0));
            all(2, x.why(0, 2, 1, 1), x.why(0, 3, 1, 1));
            is(15, x.why(0, 4, 1, 0));
            is(4, x.why(0, 4, 1, 1));
        });
        edge("RANK of HAND: the least PARTY, 1 or more, that SIGNED and is HAND (none: 2 and how many STEPS)", () -> {
            toBearer(x);
            x.accept(0);
            is(2, x.bill(0, 18));
            x.pass(0, 3, 1, 5, false);
            // the acceptor is no such party
            is(3, x.bill(0, 18));
            x.pass(0, 0, 5, 5, false);
            x.forge(0, 6, 4, 5, false);
            x.pass(0, 0, 6, 5, false);
            // a forged name is no such party
            is(6, x.bill(0, 18));
            x.pass(0, 0, 1, 5, false);
            is(3, x.bill(0, 18));
            x.pass(0, 0, 7, 5, false);
            x.pass(0, 0, 1, 5, false);
            is(3, x.bill(0, 18));
            x.pass(0, 0, 0, 5, false);
            is(1, x.bill(0, 18));
            anew();
            full(x);
            is(4, x.bill(0, 18));
            anew();
            toBearer(x);
            for (int i = 0; i < 11; i++) {
                x.pass(0, 0, 3 + i % 2, 5, false);
            }
            x.pass(0, 3, 7, 5, false);
            is(14, x.bill(0, 18));
        });
    }

    private static void termsOfLiability() {
        edge("LIABLE is a PARTY to HAND, unless (the first that holds is told, with what it comes of)", () -> {
            for (int holds = 0; holds < 96; holds++) {
                anew();
                withReasons(holds % 32, holds / 32);
                boolean[] is = {(holds & 1) != 0, (holds & 2) != 0, (holds & 4) != 0, (holds & 8) != 0, holds / 32 == 0, holds / 32 == 1, (holds & 16) != 0};
                int[] reasons = {1, 4, 5, 6, 7, 8, 9};
                int first = 0;
                for (int i = 6; i >= 0; i--) {
                    first = is[i] ? reasons[i] : first;
                }
                is(first, x.party(0, 2, 5));
            }
        });
        edge("1 UNTITLED: HAND has no TITLE: of 11 BROKEN (at a STEP): of 12 FORGED, or 13 WRONG; else of 14 LOOSE (or not payable to HAND)", () -> {
            toOrder(x);
            x.accept(0);
            x.pass(0, 3, 3, 5, false);
            why(0, 1, 14, -1, 0, 0);
            why(2, 1, 14, -1, 0, 0);
            x.forge(0, 2, 4, 5, false);
            why(1, 1, 11, 1, 12, 1);
            why(3, 1, 11, 1, 12, 1);
            anew();
            toOrder(x);
            x.forge(0, 3, 4, 5, false);
            why(0, 1, 11, 0, 13, 0);
            // unsigned, too: the first reason is told
            why(2, 1, 11, 0, 13, 0);
        });
        edge("2 DONE. 3 UNSIGNED: there is no such ENDORSEMENT, no ACCEPTOR; or of 12 FORGED (at a STEP)", () -> {
            done(x);
            why(0, 2, 0, 0, 0, 0);
            why(1, 2, 0, 0, 0, 0);
            // done ahead of unsigned
            anew();
            toBearer(x);
            x.accept(0);
            x.pass(0, 3, 3, 5, false);
            x.present(0);
            why(2, 2, 0, 0, 0, 0);
            anew();
            toBearer(x);
            x.pass(0, 3, 3, 5, false);
            x.forge(0, 7, 4, 5, false);
            why(0, 3, 0, 0, 0, 0);
            why(2, 3, 0, 0, 0, 0);
            why(3, 3, 12, 1, 0, 0);
        });
        edge("4 BEHIND: it is RANK or greater", () -> {
            allTold(x);
            x.pass(0, 1, 3, 5, false);
            is(3, x.bill(0, 18));
            why(2, 0);
            why(3, 4, 0, 0, 0, 0);
            why(4, 4, 0, 0, 0, 0);
            why(5, 4, 0, 0, 0, 0);
            // unsigned ahead of behind, behind ahead of freed
            x.release(0, 4);
            why(4, 4, 0, 0, 0, 0);
            x.pass(0, 2, 7, 5, false);
            x.pass(0, 3, 3, 5, false);
            x.pass(0, 3, 7, 5, false);
            x.pass(0, 1, 3, 5, false);
            is(1, x.bill(0, 17));
            why(7, 3, 0, 0, 0, 0);
        });
        edge("5 FREED: of 15 RELEASED, or 16 TAKEN UP (the PARTY that was released, that paid)", () -> {
            allTold(x);
            x.release(0, 3);
            why(2, 0);
            why(3, 5, 15, 3, 0, 0);
            why(4, 5, 15, 3, 0, 0);
            x.pay(0, 1);
            x.pass(0, 1, 7, 5, false);
            why(1, 5, 16, 1, 0, 0);
            why(2, 5, 16, 1, 0, 0);
            why(3, 5, 15, 3, 0, 0);
            // freed ahead of without
            anew();
            toOrder(x);
            x.pass(0, 11, 3, 5, false);
            x.release(0, 2);
            why(2, 5, 15, 2, 0, 0);
        });
        edge("6 WITHOUT: that ENDORSEMENT is", () -> {
            toOrder(x);
            x.pass(0, 11, 3, 5, false);
            x.pass(0, 1, 4, 5, false);
            // without ahead of early
            why(2, 6, 0, 0, 0, 0);
            why(3, 7, 0, 0, 0, 0);
            x.present(0);
            x.tell(0, -1, 2);
            why(2, 6, 0, 0, 0, 0);
        });
        termsOfLaterReasons();
    }

    /** Party 2 with any of untitled, behind, freed, without, defended (as bits), ahead of the dishonour (0), unnotified (1) or notified (2). */
    private static void withReasons(int which, int told) {
        toBearer(x);
        x.pass(0, (which & 8) != 0 ? 10 : 0, 3, 5, false);
        if (told > 0) {
            is(1, x.present(0));
        }
        if (told > 1) {
            is(0, x.tell(0, -1, 2));
        }
        if ((which & 4) != 0) {
            is(0, x.release(0, 2));
        }
        if ((which & 16) != 0) {
            is(0, x.defend(0, 2, true));
        }
        if ((which & 2) != 0) {
            is(0, x.pass(0, 3, 2, 5, false));
        }
        if ((which & 1) != 0) {
            int hand = x.bill(0, 7);
            all(0, x.find(0, 7), x.find(0, hand));
        }
    }

    private static void termsOfLaterReasons() {
        edge("7 EARLY: of PARTY 0: TODAY is ahead of DUE; of others: it is not DISHONOURED", () -> {
            x.draw(0, 1, 2, 50, 2);
            x.accept(0);
            x.day(1);
            why(0, 7, 0, 0, 0, 0);
            why(1, 7, 0, 0, 0, 0);
            x.day(1);
            why(0, 0);
            why(1, 7, 0, 0, 0, 0);
            x.cash(1, 0);
            x.present(0);
            why(0, 0);
            why(1, 8, 17, -1, 0, 0);
            // early ahead of defended
            anew();
            x.draw(0, 1, 2, 50, 2);
            x.accept(0);
            x.defend(0, 0, true);
            x.defend(0, 1, true);
            why(0, 7, 0, 0, 0, 0);
            why(1, 7, 0, 0, 0, 0);
        });
        edge("8 UNNOTIFIED (PARTIES 1 on): of 17 IN TIME, if it could be NOTIFIED TODAY (REACH), else of 18 LATE", () -> {
            toOrder(x);
            x.accept(0);
            x.cash(1, 0);
            x.present(0);
            x.defend(0, 1, true);
            // unnotified ahead of defended; the acceptor needs no notice
            why(0, 0);
            why(1, 8, 17, -1, 0, 0);
            x.day(2);
            why(1, 8, 17, -1, 0, 0);
            x.day(1);
            why(1, 8, 18, -1, 0, 0);
            x.grace(3);
            why(1, 8, 17, -1, 0, 0);
            x.tell(0, -1, 1);
            why(1, 9, 19, -1, 0, 0);
        });
        edge("9 DEFENDED: of 19 REAL, if it has a REAL DEFENCE, else of 20 PERSONAL, if it has a personal one and CLASS is 1", () -> {
            allTold(x);
            is(3, x.bill(0, 14));
            x.defend(0, 2, false);
            why(2, 0);
            x.defend(0, 2, true);
            why(2, 9, 19, -1, 0, 0);
            x.defend(0, 1, false);
            why(1, 0);
            // class 2 is not 1
            x.pass(0, 1, 6, 5, false);
            is(2, x.bill(0, 14));
            why(1, 0);
            // class 1: in the payee's hand again
            x.pass(0, 1, 2, 5, false);
            is(1, x.bill(0, 14));
            why(1, 9, 20, -1, 0, 0);
            x.defend(0, 1, true);
            why(1, 9, 19, -1, 0, 0);
        });
        edge("REACH: PARTIES that SIGNED, 1 on, not NOTIFIED, that could be TODAY, by notices one behind the other from who can NOTIFY", () -> {
            toBearer(x);
            x.accept(0);
            x.cash(1, 0);
            x.pass(0, 0, 3, 5, false);
            x.forge(0, 7, 4, 5, false);
            x.pass(0, 0, 5, 5, false);
            x.pass(0, 3, 6, 5, false);
            is(0, x.reach(0));
            x.present(0);
            is(2 + 4 + 16, x.reach(0));
            x.day(2);
            is(2 + 4 + 16, x.reach(0));
            x.tell(0, -1, 2);
            is(2 + 16, x.reach(0));
            x.day(1);
            // the hand is late, party 2 is not
            is(2, x.reach(0));
            x.find(0, 0);
            is(2, x.reach(0));
            x.day(1);
            is(2, x.reach(0));
            x.day(1);
            is(0, x.reach(0));
        });
    }

    // ---- terms 4

    private static void termsOfRuns() {
        edge("RUN: from now on, as long as there is one: of PARTIES that are LIABLE and have CASH the greatest PAYS", () -> {
            run2();
            // none at all
            anew();
            dishonoured(x);
            run();
            // of one's cash it is enough to have the sum, and not one less
            anew();
            allTold(x);
            x.cash(4, 49);
            x.cash(3, 50);
            run(3, 2, 1);
            x.cash(0, 49);
            run(3, 2);
            is(2, x.ends(0));
            // the acceptor's payment is the last one
            anew();
            toOrder(x);
            x.accept(0);
            x.cash(1, 0);
            x.pass(0, 1, 3, 5, false);
            x.present(0);
            x.tell(0, -1, 2);
            x.tell(0, -1, 1);
            run(2, 1);
            x.cash(1, 50);
            run(2, 1, 0);
            is(0, x.ends(0));
            // without title there is none
            x.find(0, 7);
            run();
            is(7, x.ends(0));
        });
        edge("CURE: the fewest FORGED STEPS that, had each been by NAME, who had it in HAND (so that it was not LOOSE ahead of it), would give HAND TITLE", () -> {
            toOrder(x);
            is(0, x.bill(0, 19));
            x.find(0, 4);
            x.forge(0, 2, 5, 1, false);
            is(1, x.bill(0, 19));
            x.find(0, 6);
            x.forge(0, 5, 7, 1, false);
            is(2, x.bill(0, 19));
            // to bearer a forged step breaks nothing, but of two the latter alone must be cured
            anew();
            toBearer(x);
            x.find(0, 4);
            x.forge(0, 6, 5, 0, false);
            x.pass(0, 0, 3, 0, false);
            x.forge(0, 6, 7, 0, false);
            is(-1, x.bill(0, 16));
            is(0, x.bill(0, 17));
            is(1, x.bill(0, 19));
            // in due course nothing is to be cured, though a step is forged
            anew();
            toBearer(x);
            x.find(0, 4);
            x.forge(0, 6, 5, 1, false);
            is(0, x.bill(0, 19));
            // behind a taking up what was ahead of it is to be cured no more
            anew();
            toBearer(x);
            x.forge(0, 4, 5, 9, false);
            x.present(0);
            x.tell(0, -1, 1);
            is(0, x.pay(0, 1));
            is(0, x.bill(0, 19));
            x.image(0);
            x.find(0, 6);
            x.forge(0, 0, 7, 9, false);
            is(1, x.bill(0, 19));
            x.again(0);
            x.find(0, 6);
            x.forge(0, 4, 7, 9, false);
            is(-1, x.bill(0, 19));
            // six of six
            anew();
            toOrder(x);
            for (int i = 0; i < 6; i++) {
                x.find(0, 4);
                x.forge(0, 2 + i % 2, 3 - i % 2, 9, false);
            }
            is(6, x.bill(0, 19));
        });
        edge("(all else as it is; NONE: no such)", () -> {
            toOrder(x);
            x.find(0, 4);
            is(-1, x.bill(0, 19));
            x.forge(0, 5, 6, 1, false);
            // wrong it is, whoever did it
            is(-1, x.bill(0, 19));
            anew();
            toOrder(x);
            x.find(0, 4);
            x.forge(0, 2, 5, 1, false);
            x.find(0, 6);
            is(-1, x.bill(0, 19));
            x.pass(0, 3, 5, 0, false);
            // .. but in the hand of the one who would own it
            is(1, x.bill(0, 19));
        });
    }

    /** Cash that comes by the run is there for what comes later in it; a class that changes in it makes defences hold. */
    private static void run2() {
        x.draw(0, 4, 2, 60, 0);
        x.accept(0);
        x.pass(0, 1, 3, 5, false);
        x.pass(0, 1, 4, 5, false);
        x.pass(0, 1, 5, 5, false);
        x.cash(4, 0);
        x.present(0);
        for (int party = 1; party <= 4; party++) {
            x.tell(0, -1, party);
        }
        x.cash(4, 60);
        run(4, 3, 2, 1, 0);
        is(-60, x.gains(0, 4));
        is(60, x.gains(0, 5));
        is(0, x.ends(0));
        x.defend(0, 1, false);
        run(4, 3, 2, 0);
        x.defend(0, 0, false);
        run(4, 3, 2);
    }

    private static void termsOfTheTape() {
        edge("THE TAPE has at most 600 bytes", () -> {
            for (int i = 1; i <= 30; i++) {
                is(20 * i, x.feed(0x20202020, 0x20202020, 0x20202020, 0x20202020, 0x20202020));
            }
            is(-1, x.feed(0x20202020, 0x20202020, 0x20202020, 0x20202020, 0x20202020));
            is(0, x.text(false));
            is(100, lines("day 1;".repeat(100)));
            is(100, x.count(0));
        });
        edge("TOKENS, as long as they go, blanks (10, 32) between", () -> {
            is(4, lines("day1;cash2 3;grace\n4\n;\n\n day 5 ;"));
            is(6, x.count(0));
            is(3, x.count(12));
            is(4, x.count(2));
            is(0, lines(""));
            is(0, lines(" "));
            is(0, lines("\n"));
            // a word goes as long as there are letters, a number as long as there are digits
            is(0, faultOf("dayday 1;"));
            is(6, faultOf("day 1 2;"));
            is(3, faultOf("day\t1;"));
            is(3, faultOf("day\r1;"));
            is(6, faultOf("day 1;\t"));
            is(1, faultOf(" \0"));
            is(0, faultOf("d ay 1;"));
            is(6, faultOf("day 1 1;"));
        });
        edge("words, rows of letters a .. z", () -> {
            // the letters' edges and the bytes right beside them
            is(0, faultOf("az 1;"));
            is(0, faultOf("daya 1;"));
            is(0, faultOf("dayz 1;"));
            is(0, faultOf("zday 1;"));
            is(3, faultOf("day`1;"));
            is(3, faultOf("day{1;"));
            is(0, faultOf("Day 1;"));
            is(0, faultOf("daY 1;"));
            is(6, faultOf("day 1;\u00e4"));
        });
        edge("NUMBERS, 1 to 4 digits", () -> {
            is(1, lines("cash 0 9;"));
            is(9, x.count(10));
            is(1, lines("cash 0 9999;"));
            is(9999, x.count(10));
            is(1, lines("cash 0000 0007;"));
            is(7, x.count(10));
            is(4, faultOf("day ;"));
            is(7, faultOf("cash 0 99999;"));
            is(7, faultOf("cash 0 00001;"));
            // the bytes right beside the digits
            is(5, faultOf("day 1/;"));
            is(5, faultOf("day 1:;"));
            is(4, faultOf("day -1;"));
        });
        edge("; one byte", () -> {
            is(2, lines("day 1;day 1;"));
            is(6, faultOf("day 1;;"));
            is(0, faultOf(";"));
        });
        edge("A TEXT: {LINE ';'}", () -> {
            is(0, lines(""));
            is(-1, x.fault());
            is(5, faultOf("day 1"));
            is(6, faultOf("day 1 day 1;"));
            is(11, faultOf("day 1;day 1"));
            // a line begins with its word
            is(0, faultOf("7;"));
            is(6, faultOf("day 1;7;"));
            is(6, faultOf("day 1;notice;"));
        });
        termsOfLines();
        termsOfTheFace();
    }

    private static void termsOfTheFace() {
        edge("The constants: `NONE = -1`: There is none", () -> is(-1, BillRegistry.NONE));
        edge("---- deeds: 0, or the reason; draw: the BILL, -reason", () -> {
            is(-30, x.draw(0, 1, 2, 0, 0));
            is(30, x.refused());
            is(0, x.draw(0, 1, 2, 1, 0));
            is(1, x.draw(0, 1, 2, 1, 0));
            is(0, x.refused());
            all(0, x.day(1), x.cash(0, 1), x.grace(1), x.accept(0), x.pass(0, 1, 3, 0, false), x.defend(0, 0, true), x.release(0, 2));
            all(31, x.accept(0), x.defend(0, 0, true), x.release(0, 2));
            all(0, x.find(0, 4), x.forge(0, 3, 5, 0, false));
        });
    }

    private static void termsOfLines() {
        edge("'day' N | 'cash' N N | 'grace' N | ('draw' | 'open') N N N N N (DRAWER, DRAWEE, PAYEE, SUM, days) | 'accept' N", () -> {
            is(6, lines("day 3;cash 4 5;grace 6;draw 1 2 3 4 5;open 5 4 3 2 1;accept 1;"));
            is(3, x.count(0));
            is(5, x.count(14));
            is(6, x.count(2));
            int[][] due = {{1, 2, 3, 4, 8, 0, 0}, {5, 4, 3, 2, 4, 1, 1}};
            for (int bill = 0; bill < 2; bill++) {
                for (int what = 0; what < 7; what++) {
                    is(due[bill][what], x.bill(bill, what));
                }
            }
            // one number too few, one too many
            is(3, faultOf("day;"));
            is(6, faultOf("cash 1;"));
            is(5, faultOf("grace;"));
            is(12, faultOf("draw 1 2 3 4;"));
            is(12, faultOf("open 1 2 3 4;"));
            is(6, faultOf("accept;"));
            is(6, faultOf("day 1 1;"));
            is(9, faultOf("cash 1 1 1;"));
            is(8, faultOf("grace 1 1;"));
            is(15, faultOf("draw 1 2 3 4 5 6;"));
            is(15, faultOf("open 1 2 3 4 5 6;"));
            is(9, faultOf("accept 1 1;"));
        });
        edge("('blank' | 'special' | 'agent' | 'deliver') N N N ['notice'] ['without'] (BILL, TO, VALUE)", () -> {
            String[] words = {"blank", "special", "agent", "deliver"};
            for (int sort = 0; sort < 4; sort++) {
                String line = words[sort] + " 0 7 9";
                for (int with = 0; with < 4; with++) {
                    anew();
                    toBearer(x);
                    boolean can = sort < 3 || with < 2;
                    is(can ? 1 : 0, lines(line + (with % 2 == 1 ? " notice" : "") + (with > 1 ? " without" : "") + ";"));
                    is(can ? 0 : 30, x.refused());
                    int[] due = {sort, 2, sort == 3 ? -1 : 2, 7, 9, with % 2, with / 2, 0};
                    for (int what = 0; what < 8; what++) {
                        is(can ? due[what] : -2, x.step(0, 0, what));
                    }
                }
                int behind = line.length() + 1;
                is(line.length() - 2, faultOf(words[sort] + " 0 7;"));
                is(behind, faultOf(line + " 1;"));
                is(behind + 8, faultOf(line + " without notice;"));
                is(behind + 7, faultOf(line + " notice notice;"));
                is(behind + 8, faultOf(line + " without without;"));
                is(behind + 15, faultOf(line + " notice without notice;"));
                is(behind, faultOf(line + " noticewithout;"));
                is(behind, faultOf(line + " day;"));
            }
        });
        edge("'forge' N N N N ['notice'] (BILL, NAME, TO, VALUE) | 'find' N N | ('real' | 'personal') N N | 'present' N", () -> {
            toBearer(x);
            is(6, lines("forge 0 5 3 9;real 0 1;personal 0 1;present 0;forge 0 6 4 8 notice;find 0 7;"));
            int[][] due = {{1, 2, 5, 3, 9, 0, 0}, {1, 3, 6, 4, 8, 1, 0}, {4, -1, -1, 7, 0, 0, 0}};
            all(0, x.refused(), x.bill(0, 9));
            for (int step = 0; step < 3; step++) {
                for (int what = 0; what < 7; what++) {
                    is(due[step][what], x.step(0, step, what));
                }
            }
            is(3, x.party(0, 1, 4));
            is(11, faultOf("forge 0 5 3;"));
            is(14, faultOf("forge 0 5 3 9 without;"));
            is(21, faultOf("forge 0 5 3 9 notice notice;"));
            is(6, faultOf("find 0;"));
            is(9, faultOf("find 0 7 notice;"));
            is(6, faultOf("real 0;"));
            is(9, faultOf("real 0 1 1;"));
            is(10, faultOf("personal 0;"));
            is(13, faultOf("personal 0 1 1;"));
            is(7, faultOf("present;"));
            is(10, faultOf("present 0 0;"));
        });
        edge("'hand' N N (NOTIFY from HAND: BILL, to) | 'notify' N N N (BILL, from, to) | 'release' N N | 'pay' N N", () -> {
            dishonoured(x);
            is(5, lines("hand 0 4;notify 0 4 2;notify 0 2 1;release 0 3;pay 0 2;"));
            all(0, x.party(0, 4, 2), x.party(0, 2, 2), x.party(0, 1, 2));
            is(-1, x.party(0, 3, 2));
            is(2, x.bill(0, 7));
            all(1, x.party(0, 3, 3), x.party(0, 2, 3), x.count(4));
            is(6, faultOf("hand 0;"));
            is(9, faultOf("hand 0 1 1;"));
            is(10, faultOf("notify 0 1;"));
            is(13, faultOf("notify 0 1 1 1;"));
            is(9, faultOf("release 0;"));
            is(12, faultOf("release 0 1 1;"));
            is(5, faultOf("pay 0;"));
            is(8, faultOf("pay 0 1 1;"));
        });
        edge("LINE: 'day' N | 'cash' N N | 'grace' N", () -> {
            // what a line may bear behind its numbers: nothing, but for those of which it is told
            String[] bare = {"day 1", "cash 1 1", "grace 1", "draw 1 1 1 1 1", "open 1 1 1 1 1", "accept 1", "find 1 1", "real 1 1", "personal 1 1",
                "present 1", "hand 1 1", "notify 1 1 1", "release 1 1", "pay 1 1"};
            for (String line : bare) {
                is(line.length() + 1, faultOf(line + " notice;"));
                is(line.length() + 1, faultOf(line + " without;"));
            }
        });
        edge("FAULT: the first byte or token with which no text goes on (a longer row of digits is no token), its place (a token's first byte; the end's): nothing is done", () -> {
            is(0, faultOf("x"));
            is(2, faultOf("  x"));
            is(6, faultOf("day 1;x;y"));
            is(0, faultOf("12345"));
            is(4, faultOf("day 12345;"));
            is(6, faultOf("day 1 12345;"));
            is(4, faultOf("day notice;"));
            is(0, faultOf("notice;"));
            is(0, faultOf("da"));
            is(0, faultOf("days 1;"));
            // the end's place is behind all blanks
            is(3, faultOf("day"));
            is(6, faultOf("day   "));
            is(9, faultOf("day 1 \n  "));
            is(600, faultOf(" ".repeat(597) + "day"));
            is(599, faultOf(" ".repeat(599) + "."));
            is(0, faultOf("9".repeat(600)));
            is(0, faultOf("a".repeat(600)));
            // nothing is done, of lines ahead of it neither
            anew();
            is(30, x.day(0));
            is(-1, lines("day 1;cash 0 5;grace 3;draw 0 1 2 3 4;x"));
            all(0, x.count(0), x.count(1), x.count(8));
            is(2, x.count(2));
            is(800, x.count(3));
            is(30, x.refused());
            is(1, x.count(7));
        });
        edge("Else LINES are done one by one, up to the first that is REFUSED", () -> {
            is(2, lines("day 1;day 2;day 100;day 4;"));
            is(3, x.count(0));
            is(30, x.refused());
            is(1, x.count(7));
            is(0, lines("day 0;day 1;"));
            is(3, x.count(0));
            is(2, x.count(7));
            // a dishonour is no refusal
            is(3, lines("draw 0 1 2 5 0;present 0;day 1;"));
            is(0, x.refused());
            is(2, lines("hand 0 1;pay 0 1;pay 0 1;"));
            is(4, x.refused());
        });
    }

    public static void main(String[] args) throws Exception {
        begin(args);
        whatItIs();
        termsOfPeople();
        termsOfBills();
        termsOfTheChain();
        termsOfGetting();
        termsOfTitle();
        termsOfRefusal();
        termsOfPresenting();
        termsOfNotices();
        termsOfReleasing();
        termsOfPaying();
        termsOfLiability();
        termsOfRuns();
        termsOfTheTape();
        finish(args, "## Terms", "## Promise 1");
    }
}
