import java.util.List;
import java.util.function.Consumer;

/** The sentences of the promises 1 to 35 that name a boundary case (too small, too large, empty, full, refused), each with a test of its own. */
public final class EdgesOfPromises extends Edges {
    private static final List<Consumer<BillRegistry>> LIVES = List.of(r -> { }, Edges::busy, Edges::calm, r -> {
        busy(r);
        goOn(r);
        r.feed(0x64617920, 0x373b2020, 0x20202020, 0x20202020, 0x20202020);
    }, r -> {
        r.feed(0x21212121, 0, 0, 0, 0);
        r.text(false);
        calm(r);
        goOn(r);
    });

    private static void same(List<Integer> due, List<Integer> got) {
        for (int i = 0; i < due.size(); i++) {
            if (!due.get(i).equals(got.get(i))) {
                fail("question " + i + " of all is answered by " + got.get(i) + ", due is " + due.get(i));
                return;
            }
        }
    }

    // ---- the promises

    private static void promisesOfTheTape() {
        section = "Promise 1";
        edge("No BILLS, all as at first; no images", () -> {
            int[] due = {0, 0, 2, 800, 0, 0, 0, 0, 0, -1, 100, 100, 100, 100, 100, 100, 100, 100, -1};
            for (int what = 0; what < due.length; what++) {
                is(due[what], x.count(what));
            }
            is(-2, x.bill(0, 0));
            is(-1, x.fault());
            is(0, x.refused());
            for (int k = 0; k < 3; k++) {
                is(false, x.again(k));
            }
        });
        section = "Promise 2";
        edge("twenty bytes come behind it, of each number the highest first: how many it has", () -> {
            is(20, x.feed(0x64617920, 0x353b6772, 0x61636520, 0x373b6361, 0x73682030));
            is(40, x.feed(0x20393939, 0x393b2020, 0x20202020, 0x20202020, 0x20202020));
            is(3, x.text(false));
            is(5, x.count(0));
            is(7, x.count(2));
            is(9999, x.count(10));
            // bytes from 128 on are bytes
            is(20, x.feed(-1, -1, -1, -1, -1));
            is(-1, x.text(false));
            is(0, x.fault());
            is(20, x.feed(0x20ff2020, 0, 0, 0, 0));
            is(-1, x.text(false));
            is(1, x.fault());
        });
        edge("NONE, and nothing comes, if there would be more than 600", () -> {
            tape("day 1;".repeat(96) + "day1");
            is(580, x.count(8));
            is(600, x.feed(0x3b202020, 0x20202020, 0x20202020, 0x20202020, 0x20202020));
            is(-1, x.feed(0, 0, 0, 0, 0));
            is(600, x.count(8));
            is(581, x.end(581));
            is(-1, x.feed(0, 0, 0, 0, 0));
            is(581, x.count(8));
            is(97, x.text(false));
            is(97, x.count(0));
            is(20, x.feed(0, 0, 0, 0, 0));
        });
        section = "Promise 3";
        edge("The tape has its first n bytes alone: n", () -> {
            is(0, x.end(0));
            tape("day 1;day 2;day 3;");
            is(18, x.end(18));
            is(12, x.end(12));
            is(12, x.count(8));
            // what was behind is gone for good
            is(-1, x.end(18));
            is(2, x.text(false));
            is(3, x.count(0));
            tape("day 1;");
            is(0, x.end(0));
            is(0, x.text(false));
        });
        edge("NONE if it has not so many, or n is below 0", () -> {
            all(-1, x.end(1), x.end(-1), x.end(MAX), x.end(MIN));
            x.feed(1, 2, 3, 4, 5);
            all(-1, x.end(21), x.end(-1), x.end(MAX), x.end(MIN));
            is(20, x.count(8));
            is(20, x.end(20));
        });
        promisesOfTexts();
    }

    private static void promisesOfTexts() {
        section = "Promise 4";
        edge("The tape is taken (and is empty then) as a TEXT", () -> {
            tape("day 1;");
            is(1, x.text(false));
            is(0, x.count(8));
            is(0, x.text(false));
            is(1, x.count(0));
            tape("day 0;");
            is(0, x.text(false));
            is(0, x.count(8));
            tape("day");
            is(-1, x.text(false));
            is(0, x.count(8));
        });
        edge("(anew) ahead of that all is as at first, but for images: how many LINES were done", () -> {
            allTold(x);
            x.day(3);
            x.cash(3, 9);
            x.grace(4);
            x.pay(0, 4);
            x.day(0);
            x.image(1);
            tape("cash 0 7;day 0;");
            is(1, x.text(true));
            int[] due = {0, 0, 2, 707, 0, 0, 0, 1, 0};
            for (int what = 0; what < due.length; what++) {
                is(due[what], x.count(what));
            }
            is(30, x.refused());
            is(-2, x.bill(0, 0));
            is(false, x.again(0));
            is(true, x.again(1));
            is(3, x.count(0));
            is(4, x.bill(0, 7));
            // an empty one, too
            is(0, x.text(true));
            is(0, x.count(1));
            is(0, x.refused());
            // of what was there nothing comes through, whatever is drawn then
            for (Consumer<BillRegistry> then : LIVES) {
                for (Consumer<BillRegistry> first : LIVES) {
                    same(answersBehind(then), answersBehind(first.andThen(r -> r.end(0)).andThen(r -> r.text(true)).andThen(then)));
                }
            }
        });
        edge("NONE: a FAULT", () -> {
            tape("day 1;day");
            is(-1, x.text(false));
            is(0, x.count(0));
            x.day(5);
            tape("day 1;day");
            is(-1, x.text(true));
            is(0, x.count(0));
            is(9, x.fault());
        });
        section = "Promise 5";
        edge("The place of the FAULT of the latest text(). NONE: without.", () -> {
            is(-1, x.fault());
            lines("day 1;x");
            is(6, x.fault());
            // no other call changes it
            x.day(0);
            tape("day 1;");
            is(6, x.fault());
            is(1, x.text(false));
            is(-1, x.fault());
            lines("y");
            is(0, x.fault());
            // a refused line is no fault
            lines("day 0;");
            is(-1, x.fault());
            lines("y");
            is(0, lines(""));
            is(-1, x.fault());
        });
        section = "Promise 6";
        edge("The reason for which the latest DEED, by text, by call, was REFUSED (of PAY 1 to 9, 32, too)", () -> {
            is(30, x.day(0));
            is(30, x.refused());
            is(0, x.day(1));
            is(0, x.refused());
            is(0, lines("accept 0;"));
            is(30, x.refused());
            is(1, lines("day 1;"));
            is(0, x.refused());
            x.draw(0, 1, 2, 5, 0);
            is(7, x.pay(0, 1));
            is(7, x.refused());
            is(0, lines("pay 0 0;"));
            is(3, x.refused());
            is(1, x.present(0));
            is(0, x.refused());
            x.tell(0, -1, 1);
            x.cash(0, 4);
            is(32, x.pay(0, 1));
            is(32, x.refused());
            // neither a question nor a text without a deed is a deed
            x.bill(9, 9);
            x.end(-1);
            x.image(0);
            is(0, lines(""));
            is(-1, lines("day 0;x"));
            is(32, x.refused());
        });
        edge("0: it wasn't, or there was none", () -> {
            is(0, x.refused());
            is(-30, x.draw(0, 0, 0, 0, 0));
            is(30, x.refused());
            is(0, x.draw(0, 0, 0, 1, 0));
            is(0, x.refused());
        });
    }

    private static void promisesOfDeeds() {
        section = "Promise 7";
        edge("DAY", () -> {
            all(30, x.day(0), x.refused(), x.day(100), x.refused());
            all(0, x.day(1), x.refused(), x.day(99), x.refused());
            is(100, x.count(0));
        });
        section = "Promise 8";
        edge("CASH", () -> {
            all(30, x.cash(0, 10000), x.cash(0, -1), x.cash(8, 5), x.cash(-1, 5), x.refused());
            all(0, x.cash(0, 9999), x.cash(7, 0), x.refused());
            is(9999, x.count(10));
            is(0, x.count(17));
        });
        section = "Promise 9";
        edge("GRACE", () -> {
            all(30, x.grace(10), x.refused(), x.grace(0), x.refused());
            all(0, x.grace(9), x.refused());
            is(9, x.count(2));
            all(0, x.grace(1), x.refused());
            is(1, x.count(2));
        });
        section = "Promise 10";
        edge("DRAW (payee 10 more: OPEN): its number", () -> {
            is(0, x.draw(0, 1, 7, 5, 0));
            is(1, x.draw(0, 1, 17, 5, 0));
            is(2, x.draw(0, 1, 10, 5, 0));
            is(3, x.draw(0, 1, 0, 5, 0));
            int[] payees = {7, 7, 0, 0};
            for (int bill = 0; bill < 4; bill++) {
                is(payees[bill], x.bill(bill, 2));
                is(bill == 1 || bill == 2 ? 1 : 0, x.bill(bill, 5));
            }
        });
        edge("-30: a number can't be, there are 4", () -> {
            all(-30, x.draw(0, 1, 8, 5, 0), x.draw(0, 1, 9, 5, 0), x.draw(0, 1, 18, 5, 0), x.draw(0, 1, 20, 5, 0), x.draw(0, 1, -1, 5, 0),
                    x.draw(0, 1, -10, 5, 0), x.draw(0, 1, MAX, 5, 0), x.draw(0, 1, MIN, 5, 0), x.draw(10, 1, 2, 5, 0), x.draw(0, 11, 2, 5, 0),
                    x.draw(MIN, 1, 2, 5, 0), x.draw(0, MAX, 2, 5, 0));
            is(0, x.count(1));
            // by text it is a word that makes it open
            is(0, lines("draw 0 1 12 5 0;"));
            is(30, x.refused());
            is(0, lines("open 0 1 12 5 0;"));
            for (int bill = 0; bill < 4; bill++) {
                is(bill, x.draw(0, 1, 2, 5, 0));
            }
            refuses(30, r -> {
                for (int bill = 0; bill < 4; bill++) {
                    r.draw(0, 1, 2, 5, 0);
                }
            }, r -> r.draw(0, 1, 2, 5, 0), r -> r.draw(0, 1, 12, 5, 0));
        });
        section = "Promise 11";
        edge("ACCEPT", () -> refuses(30, Edges::toOrder, r -> r.accept(1), r -> r.accept(-1), r -> r.accept(4), r -> r.accept(MAX), r -> r.accept(MIN)));
        section = "Promise 12";
        edge("PASS (sort 10 more: WITHOUT)", () -> {
            toBearer(x);
            all(30, x.pass(1, 0, 3, 5, false), x.pass(-1, 0, 3, 5, false), x.pass(4, 0, 3, 5, false), x.pass(MAX, 0, 3, 5, false), x.pass(MIN, 0, 3, 5, false));
            all(0, x.pass(0, 10, 3, 5, true), x.pass(0, 11, 4, 5, true), x.pass(0, 12, 5, 5, true));
            all(30, x.pass(0, 13, 3, 5, true), x.pass(0, 10, 5, 5, true));
            is(3, x.bill(0, 8));
        });
        section = "Promise 13";
        edge("FORGE", () -> refuses(30, Edges::toOrder, r -> r.forge(1, 1, 3, 5, false), r -> r.forge(-1, 1, 3, 5, false), r -> r.forge(MAX, 1, 3, 5, false),
                r -> r.forge(MIN, 1, 3, 5, false), r -> r.forge(0, 10, 3, 5, false), r -> r.forge(0, MIN, 3, 5, false)));
        section = "Promise 14";
        edge("FIND", () -> refuses(30, Edges::toOrder, r -> r.find(1, 3), r -> r.find(-1, 3), r -> r.find(MAX, 3), r -> r.find(0, MAX), r -> r.find(0, MIN)));
        section = "Promise 15";
        edge("DEFEND", () -> refuses(30, Edges::toOrder, r -> r.defend(1, 1, true), r -> r.defend(-1, 1, true), r -> r.defend(0, 0, true),
                r -> r.defend(0, 2, true), r -> r.defend(0, MAX, true), r -> r.defend(0, MIN, true), r -> r.defend(MAX, 1, true)));
        section = "Promise 16";
        edge("PRESENT: 0 it is paid, 1 it is DISHONOURED; 30, 31: REFUSED", () -> {
            is(30, x.present(0));
            is(30, x.refused());
            toOrder(x);
            toOrder(x);
            x.accept(0);
            is(0, x.present(0));
            is(0, x.refused());
            is(1, x.present(1));
            is(0, x.refused());
            all(31, x.present(0), x.refused(), x.present(1), x.refused());
            is(3, x.count(7));
        });
        section = "Promise 17";
        edge("NOTIFY", () -> {
            dishonoured(x);
            is(0, x.tell(0, BillRegistry.NONE, 4));
            is(0, x.tell(0, 4, 3));
            all(30, x.tell(0, -2, 2), x.tell(0, 5, 2), x.tell(0, 3, 0), x.tell(1, 3, 2), x.tell(0, 3, MAX), x.tell(0, 3, MIN), x.tell(MAX, 3, 2));
        });
        section = "Promise 18";
        edge("RELEASE", () -> {
            toOrder(x);
            all(30, x.release(0, 0), x.release(0, 2), x.release(1, 1), x.release(0, -1));
            is(0, x.release(0, 1));
            is(31, x.release(0, 1));
        });
        section = "Promise 19";
        edge("PAY", () -> {
            all(30, x.pay(0, 0), x.pay(0, 1));
            allTold(x);
            all(30, x.pay(0, 5), x.pay(0, -1), x.pay(1, 1));
            is(3, x.pay(0, 0));
            is(0, x.pay(0, 4));
            is(4, x.pay(0, 4));
        });
    }

    private static void promisesOfCounts() {
        section = "Promise 20";
        edge("What 0: TODAY, 1: BILLS, 2: GRACE, 3: CASH of all, 4: how often anything was paid, 5: DISHONOURED BILLS, 6: DONE ones, 7: DEEDS REFUSED, "
                + "8: bytes on the tape, 10 + p: CASH of a PERSON", () -> {
            for (int person = 0; person < 8; person++) {
                x.cash(person, 9999 - person);
            }
            x.grace(9);
            days(x, 999);
            allTold(x);
            x.pay(0, 4);
            x.pay(0, 3);
            for (int bill = 1; bill < 4; bill++) {
                x.draw(6, 7, 6, 1, 0);
                x.accept(bill);
                x.present(bill);
            }
            x.pay(0, 3);
            x.day(1);
            x.feed(0, 0, 0, 0, 0);
            int[] due = {999, 4, 9, 79919, 5, 1, 3, 2, 20};
            for (int what = 0; what < due.length; what++) {
                is(due[what], x.count(what));
            }
            int[] cash = {9999, 9998, 9997, 9946, 9995, 9999, 9996, 9989};
            for (int person = 0; person < 8; person++) {
                is(cash[person], x.count(10 + person));
            }
        });
        edge("NONE for another what", () -> all(-1, x.count(-1), x.count(9), x.count(18), x.count(19), x.count(MAX), x.count(MIN), x.count(MIN + 10), x.count(MIN + 9)));
        section = "Promise 21";
        edge("Of a BILL, what 0: DRAWER, 1: DRAWEE, 2: PAYEE, 3: SUM, 4: DUE, 5: 1 if it is OPEN, else 0, 6: 1 if it is ACCEPTED, else 0, 7: HAND, 8: STEPS", () -> {
            x.day(9);
            x.draw(7, 6, 5, 999, 99);
            x.draw(1, 2, 13, 1, 0);
            x.accept(1);
            x.find(1, 4);
            int[][] due = {{7, 6, 5, 999, 108, 0, 0, 5, 0}, {1, 2, 3, 1, 9, 1, 1, 4, 1}};
            for (int bill = 0; bill < 2; bill++) {
                for (int what = 0; what < 9; what++) {
                    is(due[bill][what], x.bill(bill, what));
                }
            }
        });
        edge("10: 1 if it is DONE, else 0, 11: 0 to ORDER, 1 to BEARER, 2 to an AGENT", () -> {
            done(x);
            is(1, x.bill(0, 10));
            is(0, x.bill(0, 11));
            anew();
            dishonoured(x);
            is(0, x.bill(0, 10));
            x.pass(0, 0, 6, 5, false);
            is(1, x.bill(0, 11));
            x.pass(0, 2, 7, 5, false);
            is(2, x.bill(0, 11));
        });
        edge("13: OWNER, 14: CLASS, 15: 1 if it is LOOSE, else 0", () -> {
            toBearer(x);
            chain(1, -1, 2, 1, 0);
            x.pass(0, 3, 7, 5, false);
            chain(1, -1, 7, 3, 0);
            x.pass(0, 3, 0, 5, true);
            chain(1, -1, 0, 2, 0);
            x.find(0, 6);
            chain(1, -1, 0, 2, 1);
        });
        edge("17: 1 if HAND has TITLE, else 0, 18: RANK, 19: CURE", () -> {
            toBearer(x);
            is(1, x.bill(0, 17));
            is(2, x.bill(0, 18));
            is(0, x.bill(0, 19));
            x.find(0, 0);
            is(0, x.bill(0, 17));
            is(1, x.bill(0, 18));
            is(-1, x.bill(0, 19));
            x.forge(0, 7, 6, 0, false);
            is(0, x.bill(0, 17));
            is(4, x.bill(0, 18));
            is(1, x.bill(0, 19));
        });
        edge("9: the day of its dishonour (NONE)", () -> {
            toOrder(x);
            x.day(9);
            is(-1, x.bill(0, 9));
            x.present(0);
            is(9, x.bill(0, 9));
        });
        edge("12: of whom, that AGENT (NONE: BEARER)", () -> {
            toBearer(x);
            chain(1, -1);
            x.pass(0, 1, 0, 5, false);
            chain(0, 0);
            x.pass(0, 2, 7, 5, false);
            chain(2, 7);
        });
        edge("16: the STEP at which it is BROKEN (NONE)", () -> {
            toOrder(x);
            is(-1, x.bill(0, 16));
            x.find(0, 3);
            is(-1, x.bill(0, 16));
            x.pass(0, 1, 4, 5, false);
            is(1, x.bill(0, 16));
            x.forge(0, 2, 5, 5, false);
            is(1, x.bill(0, 16));
            // at the first one, and at the last one
            anew();
            toOrder(x);
            x.forge(0, 3, 4, 5, false);
            is(0, x.bill(0, 16));
            anew();
            toOrder(x);
            for (int i = 0; i < 11; i++) {
                x.find(0, 3 + i % 2);
            }
            x.pass(0, 0, 7, 5, false);
            is(11, x.bill(0, 16));
        });
        edge("-2: there is none such, another what", () -> {
            all(-2, x.bill(0, 0), x.bill(0, 20));
            toOrder(x);
            all(-2, x.bill(0, -1), x.bill(0, 20), x.bill(0, MAX), x.bill(0, MIN), x.bill(1, 0), x.bill(-1, 0), x.bill(4, 0), x.bill(MAX, 0), x.bill(MIN, 0));
        });
        edge("(11 to 15 of one that is BROKEN: as it was ahead of that STEP.)", () -> {
            toBearer(x);
            x.pass(0, 1, 3, 5, false);
            x.pass(0, 2, 4, 5, false);
            x.pass(0, 3, 5, 5, false);
            chain(2, 4, 3, 3, 1, -1);
            x.pass(0, 0, 6, 5, false);
            chain(2, 4, 3, 3, 1, 3);
            x.find(0, 7);
            x.pass(0, 3, 4, 5, false);
            chain(2, 4, 3, 3, 1, 3);
        });
    }

    private static void promisesOfStepsAndParties() {
        section = "Promise 22";
        edge("Of a STEP, what 0: SORT", () -> {
            toBearer(x);
            x.pass(0, 12, 3, 5, false);
            x.forge(0, 6, 4, 5, false);
            is(2, x.step(0, 0, 0));
            is(1, x.step(0, 1, 0));
        });
        edge("3: TO, 4: VALUE, 5: 1 with NOTICE, else 0, 6: 1 if WITHOUT, else 0, 7: the day", () -> {
            toBearer(x);
            x.pass(0, 10, 7, 999, false);
            days(x, 999);
            x.pass(0, 3, 0, 0, true);
            int[][] due = {{7, 999, 0, 1, 0}, {0, 0, 1, 0, 999}};
            for (int step = 0; step < 2; step++) {
                for (int what = 0; what < 5; what++) {
                    is(due[step][what], x.step(0, step, 3 + what));
                }
            }
        });
        edge("1: BY (NONE), 2: NAME (NONE)", () -> {
            toBearer(x);
            x.pass(0, 0, 3, 5, false);
            x.pass(0, 3, 4, 5, false);
            x.find(0, 5);
            int[] by = {2, 3, -1};
            int[] name = {2, -1, -1};
            for (int step = 0; step < 3; step++) {
                is(by[step], x.step(0, step, 1));
                is(name[step], x.step(0, step, 2));
            }
        });
        edge("8: the OWNER right behind it, 9: the CLASS", () -> {
            toBearer(x);
            x.pass(0, 0, 3, 5, false);
            x.pass(0, 2, 4, 5, false);
            x.find(0, 6);
            x.pass(0, 0, 7, 5, false);
            x.pass(0, 3, 3, 5, false);
            int[] owners = {3, 3, 3, 3, 3};
            int[] classes = {3, 3, 3, 3, 3};
            for (int step = 0; step < 5; step++) {
                is(owners[step], x.step(0, step, 8));
                is(classes[step], x.step(0, step, 9));
            }
            // a taking up is no step: what was right behind each step stays
            anew();
            allTold(x);
            x.pay(0, 2);
            x.pass(0, 1, 6, 0, false);
            int[] owner = {3, 4, 5, 6};
            int[] grade = {3, 3, 3, 1};
            for (int step = 0; step < 4; step++) {
                is(owner[step], x.step(0, step, 8));
                is(grade[step], x.step(0, step, 9));
            }
        });
        edge("-2: there is none such, another what", () -> {
            is(-2, x.step(0, 0, 0));
            toOrder(x);
            is(-2, x.step(0, 0, 0));
            x.find(0, 3);
            all(-2, x.step(0, 1, 0), x.step(0, -1, 0), x.step(0, MAX, 0), x.step(0, MIN, 0), x.step(0, 0, -1), x.step(0, 0, 10), x.step(0, 0, MAX),
                    x.step(0, 0, MIN), x.step(1, 0, 0), x.step(-1, 0, 0), x.step(4, 0, 0), x.step(MAX, 0, 0));
            is(4, x.step(0, 0, 0));
        });
        section = "Promise 23";
        edge("Of a PARTY (0 to 1 and STEPS), what 0: who (NONE: no ENDORSEMENT, no ACCEPTOR)", () -> {
            toBearer(x);
            is(-1, x.party(0, 0, 0));
            is(0, x.party(0, 1, 0));
            is(-2, x.party(0, 2, 0));
            x.find(0, 3);
            is(-1, x.party(0, 2, 0));
            x.pass(0, 3, 4, 5, false);
            is(-1, x.party(0, 3, 0));
            x.forge(0, 7, 5, 5, false);
            is(7, x.party(0, 4, 0));
            is(-2, x.party(0, 5, 0));
            anew();
            full(x);
            is(3, x.party(0, 13, 0));
            is(-2, x.party(0, 14, 0));
        });
        edge("1: 1 if it SIGNED, else 0", () -> {
            toBearer(x);
            x.pass(0, 0, 3, 5, false);
            x.forge(0, 6, 4, 5, false);
            x.pass(0, 3, 5, 5, false);
            x.find(0, 6);
            int[] due = {0, 1, 1, 0, 0, 0};
            for (int party = 0; party < 6; party++) {
                is(due[party], x.party(0, party, 1));
            }
            x.accept(0);
            is(1, x.party(0, 0, 1));
        });
        edge("3: 1 if it is FREED, else 0", () -> {
            allTold(x);
            x.release(0, 4);
            x.pay(0, 2);
            int[] due = {0, 0, 1, 1, 1};
            for (int party = 0; party < 5; party++) {
                is(due[party], x.party(0, party, 3));
            }
        });
        edge("2: the day on which it was NOTIFIED (NONE)", () -> {
            dishonoured(x);
            is(-1, x.party(0, 1, 2));
            is(0, x.tell(0, -1, 1));
            is(0, x.party(0, 1, 2));
            x.day(2);
            x.tell(0, -1, 2);
            is(2, x.party(0, 2, 2));
            is(-1, x.party(0, 0, 2));
        });
        edge("4: DEFENCES (1 REAL, 2 personal, 3 both), 5: 0 if it is LIABLE, else why not", () -> {
            toOrder(x);
            x.accept(0);
            all(0, x.party(0, 0, 4), x.party(0, 0, 5));
            x.defend(0, 0, true);
            is(1, x.party(0, 0, 4));
            is(9, x.party(0, 0, 5));
            x.defend(0, 1, false);
            is(2, x.party(0, 1, 4));
            is(7, x.party(0, 1, 5));
            x.defend(0, 1, true);
            is(3, x.party(0, 1, 4));
        });
        edge("-2: there is none such, another what", () -> {
            is(-2, x.party(0, 0, 0));
            toOrder(x);
            all(-2, x.party(0, 0, -1), x.party(0, 0, 6), x.party(0, 0, MAX), x.party(0, 0, MIN), x.party(0, -1, 0), x.party(0, 2, 0), x.party(0, MAX, 0),
                    x.party(0, MIN, 0), x.party(1, 0, 0), x.party(-1, 0, 0), x.party(4, 0, 0), x.party(MAX, 0, 0));
        });
        section = "Promise 24";
        edge("level 0 the first reason, 1 what it comes of, 2 what that comes of: what 0: the reason, 1: its STEP (11 to 13), PARTY (15, 16), else NONE", () -> {
            toOrder(x);
            x.find(0, 3);
            why(1, 1, 14, -1, 0, 0);
            x.forge(0, 2, 4, 5, false);
            why(1, 1, 11, 1, 12, 1);
            anew();
            toBearer(x);
            x.forge(0, 6, 3, 5, false);
            why(2, 3, 12, 0, 0, 0);
            x.release(0, 1);
            why(1, 5, 15, 1, 0, 0);
        });
        edge("0: there is no such level (it is LIABLE)", () -> {
            toOrder(x);
            x.accept(0);
            why(0, 0, 0, 0, 0, 0);
            // early: a reason that comes of nothing
            why(1, 7, 0, 0, 0, 0);
        });
        edge("-2: there is none such, another level, what", () -> {
            is(-2, x.why(0, 0, 0, 0));
            toOrder(x);
            all(-2, x.why(0, 0, -1, 0), x.why(0, 0, 3, 0), x.why(0, 0, MAX, 0), x.why(0, 0, MIN, 0), x.why(0, 0, 0, -1), x.why(0, 0, 0, 2), x.why(0, 0, 0, MAX),
                    x.why(0, 0, 0, MIN), x.why(0, 2, 0, 0), x.why(0, -1, 0, 0), x.why(0, MAX, 0, 0), x.why(1, 0, 0, 0), x.why(-1, 0, 0, 0), x.why(4, 0, 0, 0));
            // of one that is liable, too
            x.accept(0);
            all(-2, x.why(0, 0, 3, 0), x.why(0, 0, 2, 2));
        });
    }

    private static void promisesOfRecourse() {
        section = "Promise 25";
        edge("PARTIES that are LIABLE, as bits. -2: there is none such.", () -> {
            all(-2, x.liable(0), x.liable(-1), x.liable(4), x.liable(MAX), x.liable(MIN));
            toBearer(x);
            is(-2, x.liable(1));
            is(0, x.liable(0));
            x.accept(0);
            is(1, x.liable(0));
            x.cash(1, 0);
            x.pass(0, 3, 3, 5, false);
            for (int i = 0; i < 11; i++) {
                x.pass(0, 0, 4 + i % 2, 5, false);
            }
            x.present(0);
            for (int party = 1; party < 14; party++) {
                x.tell(0, -1, party);
            }
            // in the hand of 4, whose first endorsement is step 2
            is(1 + 2 + 8, x.liable(0));
            // as far as it goes: in another one's hand all but the delivery, which is step 0
            anew();
            toBearer(x);
            x.accept(0);
            x.cash(1, 0);
            x.pass(0, 3, 3, 5, false);
            for (int i = 0; i < 10; i++) {
                x.pass(0, 0, 4 + i % 2, 5, false);
            }
            x.pass(0, 0, 7, 5, false);
            x.present(0);
            for (int party = 1; party < 14; party++) {
                is(party == 2 ? 30 : 0, x.tell(0, -1, party));
            }
            is((1 << 14) - 1 - 4, x.liable(0));
        });
        section = "Promise 26";
        edge("REACH, as bits. -2: there is none such.", () -> {
            all(-2, x.reach(0), x.reach(-1), x.reach(4), x.reach(MAX), x.reach(MIN));
            toBearer(x);
            is(-2, x.reach(1));
            is(0, x.reach(0));
            for (int i = 0; i < 11; i++) {
                x.pass(0, 0, 4 + i % 2, 5, false);
            }
            x.pass(0, 0, 7, 5, false);
            x.present(0);
            is((1 << 14) - 2, x.reach(0));
        });
        section = "Promise 27";
        edge("how many PAY (k NONE), or the k-th PARTY that does", () -> {
            toOrder(x);
            is(0, x.run(0, -1));
            anew();
            allTold(x);
            run(4, 3, 2, 1);
            // asking does nothing
            is(5, x.bill(0, 7));
            is(0, x.count(4));
            run(4, 3, 2, 1);
        });
        edge("-2: not so many, there is none such", () -> {
            all(-2, x.run(0, -1), x.run(-1, -1), x.run(4, 0), x.run(MAX, -1), x.run(MIN, -1));
            allTold(x);
            all(-2, x.run(0, 4), x.run(0, -2), x.run(0, MAX), x.run(0, MIN), x.run(1, -1));
            anew();
            toOrder(x);
            is(-2, x.run(0, 0));
        });
        section = "Promise 28";
        edge("By how much CASH of a PERSON is more by the RUN (less: below 0)", () -> {
            allTold(x);
            int[] gains = {-50, 0, 0, 0, 0, 50, 0, 0};
            for (int person = 0; person < 8; person++) {
                is(gains[person], x.gains(0, person));
            }
            // a full hand gets no more than it holds
            x.cash(5, 9998);
            is(1, x.gains(0, 5));
            x.cash(5, 9999);
            is(0, x.gains(0, 5));
            x.cash(4, 9999);
            is(0, x.gains(0, 4));
            is(9999, x.count(14));
        });
        edge("0: also no such PERSON, BILL", () -> {
            all(0, x.gains(0, 0), x.gains(-1, 0), x.gains(4, 0));
            allTold(x);
            all(0, x.gains(0, -1), x.gains(0, 8), x.gains(0, MAX), x.gains(0, MIN), x.gains(1, 0), x.gains(-1, 0), x.gains(MAX, 0), x.gains(MIN, 0));
        });
        section = "Promise 29";
        edge("Who has the BILL behind the RUN", () -> {
            toOrder(x);
            is(2, x.ends(0));
            x.accept(0);
            is(2, x.ends(0));
            anew();
            allTold(x);
            is(0, x.ends(0));
            x.cash(0, 49);
            is(2, x.ends(0));
        });
        edge("NONE: there is none such", () -> {
            all(-1, x.ends(0), x.ends(-1), x.ends(4), x.ends(MAX), x.ends(MIN));
            toOrder(x);
            is(-1, x.ends(1));
        });
    }

    private static void promisesOfSums() {
        section = "Promise 30";
        edge("SUMS of all BILLS, not DONE, of which a PERSON is a PARTY that is LIABLE (of each BILL once)", () -> {
            for (int bill = 0; bill < 4; bill++) {
                x.draw(1, 1, 2, 999, 0);
                x.accept(bill);
            }
            is(3996, x.owes(1));
            is(0, x.owes(2));
            x.present(0);
            x.tell(0, -1, 1);
            is(3, x.liable(0));
            is(3996, x.owes(1));
            x.cash(1, 9999);
            x.present(1);
            is(2997, x.owes(1));
            // who is not liable to this hand owes nothing
            x.find(2, 7);
            is(1998, x.owes(1));
        });
        edge("NONE: no such PERSON", () -> {
            all(-1, x.owes(-1), x.owes(8), x.owes(MAX), x.owes(MIN));
            all(0, x.owes(0), x.owes(7));
        });
        section = "Promise 31";
        edge("SUMS of all BILLS, not DONE, that a PERSON has in HAND with TITLE and of which some PARTY is LIABLE and has CASH", () -> {
            for (int bill = 0; bill < 4; bill++) {
                x.draw(1, 1, 2, 100 - bill, bill == 3 ? 1 : 0);
                x.accept(bill);
            }
            is(100 + 99 + 98, x.worth(2));
            x.cash(1, 99);
            is(99 + 98, x.worth(2));
            x.find(1, 7);
            is(98, x.worth(2));
            is(0, x.worth(7));
            x.present(2);
            is(0, x.worth(2));
            x.cash(1, 97);
            is(0, x.worth(2));
            x.day(1);
            is(97, x.worth(2));
            x.pass(3, 1, 5, 1, false);
            is(0, x.worth(2));
            is(97, x.worth(5));
        });
        edge("NONE: no such PERSON", () -> {
            all(-1, x.worth(-1), x.worth(8), x.worth(MAX), x.worth(MIN));
            all(0, x.worth(0), x.worth(7));
        });
        section = "Promise 32";
        edge("The last day (it may be gone) on which HAND, with TITLE, or who was NOTIFIED, can NOTIFY a PARTY, by what was NOTIFIED till now", () -> {
            dishonoured(x);
            all(2, x.until(0, 1), x.until(0, 4));
            x.day(1);
            x.tell(0, -1, 3);
            is(3, x.until(0, 2));
            is(2, x.until(0, 4));
            x.day(2);
            is(3, x.until(0, 2));
            x.tell(0, 3, 2);
            is(5, x.until(0, 1));
            days(x, 90);
            is(5, x.until(0, 1));
            is(2, x.until(0, 4));
            // the hand's title, and the hand's rank
            x.find(0, 7);
            is(5, x.until(0, 1));
            is(-1, x.until(0, 4));
            x.grace(1);
            is(4, x.until(0, 1));
            // grace goes beyond the last day that there is
            anew();
            days(x, 999);
            dishonoured(x);
            is(1001, x.until(0, 1));
        });
        edge("NONE: nobody can, it is NOTIFIED already, did not sign, is PARTY 0, there is none such, or it is not DISHONOURED", () -> {
            is(-1, x.until(0, 1));
            toBearer(x);
            x.accept(0);
            x.cash(1, 0);
            x.forge(0, 7, 3, 5, false);
            x.pass(0, 0, 4, 5, false);
            x.pass(0, 3, 5, 5, false);
            for (int party = 0; party < 5; party++) {
                is(-1, x.until(0, party));
            }
            x.present(0);
            int[] due = {-1, 2, -1, 2, -1, -1};
            for (int party = 0; party < 6; party++) {
                is(due[party], x.until(0, party));
            }
            all(-1, x.until(0, -1), x.until(0, MAX), x.until(0, MIN), x.until(1, 1), x.until(-1, 1), x.until(4, 1), x.until(MAX, 1));
            x.tell(0, -1, 1);
            is(-1, x.until(0, 1));
            x.find(0, 6);
            is(-1, x.until(0, 3));
            // behind the hand's rank
            anew();
            dishonoured(x);
            x.pass(0, 1, 3, 5, false);
            is(2, x.until(0, 2));
            all(-1, x.until(0, 3), x.until(0, 4), x.until(0, 5));
        });
        section = "Promise 33";
        edge("All STEPS, of a BILL, of SORT 0 to 4 (sort), or (sort 5) that are FORGED: how many", () -> {
            toBearer(x);
            for (int sort = 0; sort < 6; sort++) {
                is(0, x.sorts(0, sort));
            }
            x.pass(0, 10, 3, 5, false);
            x.forge(0, 7, 4, 5, false);
            x.pass(0, 1, 5, 5, false);
            x.find(0, 6);
            int[] due = {1, 2, 0, 0, 1, 1};
            for (int sort = 0; sort < 6; sort++) {
                is(due[sort], x.sorts(0, sort));
            }
            anew();
            full(x);
            is(12, x.sorts(0, 0));
        });
        edge("-2: there is none such", () -> {
            is(-2, x.sorts(0, 0));
            toBearer(x);
            all(-2, x.sorts(0, -1), x.sorts(0, 6), x.sorts(0, MAX), x.sorts(0, MIN), x.sorts(1, 0), x.sorts(-1, 0), x.sorts(4, 0), x.sorts(MAX, 0), x.sorts(MIN, 0));
        });
    }

    private static void promisesOfImages() {
        section = "Promise 34";
        edge("Image k (0 .. 2) is all that is (the tape, the FAULT, too), as it is now: true; false for another k", () -> {
            all(0, x.image(-1) ? 1 : 0, x.image(3) ? 1 : 0, x.image(MAX) ? 1 : 0, x.image(MIN) ? 1 : 0);
            for (int k = 0; k < 3; k++) {
                x.cash(0, k);
                is(true, x.image(k));
            }
            lines("day 1;!");
            x.day(0);
            tape("day 7;");
            is(true, x.image(2));
            tape("day 8;");
            x.text(true);
            x.draw(0, 1, 2, 3, 4);
            is(true, x.again(2));
            is(6, x.fault());
            is(30, x.refused());
            is(6, x.count(8));
            is(0, x.count(1));
            // the image has the bytes themselves, not only how many
            is(1, x.text(false));
            is(7, x.count(0));
            // the others are as they were
            is(true, x.again(0));
            is(0, x.count(10));
            is(true, x.again(1));
            is(1, x.count(10));
            is(0, x.count(8));
        });
        section = "Promise 35";
        edge("All that is is as image k has it: true; false if there is none such", () -> {
            for (int k = -1; k < 4; k++) {
                is(false, x.again(k));
            }
            is(false, x.again(MAX));
            is(false, x.again(MIN));
            x.image(1);
            all(0, x.again(0) ? 1 : 0, x.again(2) ? 1 : 0);
            // every answer is as it was, whatever was done between, and what is done then goes on from there
            for (Consumer<BillRegistry> life : LIVES) {
                for (Consumer<BillRegistry> other : LIVES) {
                    Consumer<BillRegistry> back = life.andThen(r -> r.image(2)).andThen(r -> r.text(true)).andThen(other).andThen(r -> r.again(2));
                    same(answersBehind(life), answersBehind(back));
                    same(answersBehind(life.andThen(Edges::goOn)), answersBehind(back.andThen(Edges::goOn)));
                    same(answersBehind(life), answersBehind(back.andThen(Edges::goOn).andThen(r -> r.again(2))));
                }
            }
        });
    }

    public static void main(String[] args) throws Exception {
        begin(args);
        promisesOfTheTape();
        promisesOfDeeds();
        promisesOfCounts();
        promisesOfStepsAndParties();
        promisesOfRecourse();
        promisesOfSums();
        promisesOfImages();
        finish(args, "## Promise 1", "## Not promised");
    }
}
