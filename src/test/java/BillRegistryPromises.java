/** Promise by promise: ordinary inputs, the edges that the document names, and wrong inputs. */
public final class BillRegistryPromises {
    private static int wrong = 0;
    private static int promise = 0;
    private static BillRegistry x = new BillRegistry();

    private static void anew(int number) {
        promise = number;
        x = new BillRegistry();
    }

    private static void is(int want, int got) {
        if (got != want) {
            wrong++;
            System.out.println("promise " + promise + ", " + Thread.currentThread().getStackTrace()[2] + ": answered " + got + ", due is " + want);
        }
    }

    private static void is(boolean want, boolean got) {
        is(want ? 1 : 0, got ? 1 : 0);
    }

    /** Feeds a text and cuts the tape behind it. */
    private static void tape(String text) {
        int length = x.count(8) + text.length();
        for (int at = 0; at < text.length(); at += 20) {
            int[] n = new int[5];
            for (int i = 0; i < 20; i++) {
                n[i / 4] = n[i / 4] << 8 | (at + i < text.length() ? text.charAt(at + i) : ' ');
            }
            x.feed(n[0], n[1], n[2], n[3], n[4]);
        }
        x.end(length);
    }

    private static int fault(String text) {
        tape(text);
        is(-1, x.text(false));
        return x.fault();
    }

    private static int lines(String text) {
        tape(text);
        return x.text(false);
    }

    private static void newObject() {
        anew(1);
        is(-1, BillRegistry.NONE);
        is(0, x.count(0));
        is(0, x.count(1));
        is(2, x.count(2));
        is(800, x.count(3));
        for (int what = 4; what <= 8; what++) {
            is(0, x.count(what));
        }
        for (int person = 0; person < 8; person++) {
            is(100, x.count(10 + person));
        }
        is(-1, x.fault());
        is(0, x.refused());
        for (int k = 0; k < 3; k++) {
            is(false, x.again(k));
        }
    }

    private static void feed() {
        anew(2);
        is(20, x.feed(0x64617920, 0x313b6461, 0x7920323b, 0x20202020, 0x20202020));
        is(20, x.count(8));
        is(2, x.text(false));
        is(3, x.count(0));
        for (int i = 1; i <= 30; i++) {
            is(20 * i, x.feed(-1, -1, -1, -1, -1));
        }
        is(-1, x.feed(0, 0, 0, 0, 0));
        is(600, x.count(8));
        x.end(581);
        is(-1, x.feed(0, 0, 0, 0, 0));
        x.end(580);
        is(600, x.feed(0, 0, 0, 0, 0));
        // bytes come behind the ones that are left, not at a row's start
        x.end(0);
        tape("day ");
        tape("7;");
        is(1, x.text(false));
        is(10, x.count(0));
    }

    private static void end() {
        anew(3);
        is(0, x.end(0));
        is(-1, x.end(1));
        x.feed(1, 2, 3, 4, 5);
        is(-1, x.end(21));
        is(-1, x.end(-1));
        is(-1, x.end(Integer.MIN_VALUE));
        is(-1, x.end(Integer.MAX_VALUE));
        is(20, x.end(20));
        is(7, x.end(7));
        is(7, x.count(8));
        is(-1, x.end(8));
        is(0, x.end(0));
    }

    private static void text() {
        anew(4);
        is(0, lines(""));
        is(0, lines(" \n "));
        is(3, lines("day1;\nday 2 ;  day\n0003;"));
        is(6, x.count(0));
        is(0, x.count(8));
        is(1, lines("cash 0 5;day 0;cash 1 5;"));
        is(5, x.count(10));
        is(100, x.count(11));
        is(30, x.refused());
        // with a fault nothing is done, but the tape is taken
        is(-1, lines("day 1;day 1;x"));
        is(6, x.count(0));
        is(0, x.count(8));
        is(30, x.refused());
        // every word
        x = new BillRegistry();
        is(20, lines("day 1;cash 1 200;grace 3;draw 0 1 2 50 0;open 3 4 5 60 1;accept 0;blank 0 3 10 notice without;deliver 0 4 5;"
                + "special 0 5 6 without;agent 0 6 0;forge 1 2 4 9 notice;find 1 6;real 0 0;personal 1 1;"
                + "present 0;hand 0 2;draw 0 0 1 5 0;present 2;hand 2 1;release 0 1;"));
        is(3, x.count(1));
        is(0, x.step(0, 0, 0));
        is(1, x.step(0, 0, 5));
        is(1, x.step(0, 0, 6));
        is(3, x.step(0, 1, 0));
        is(0, x.step(0, 1, 6));
        is(1, x.step(0, 2, 0));
        is(0, x.step(0, 2, 5));
        is(1, x.step(0, 2, 6));
        is(2, x.step(0, 3, 0));
        is(1, x.step(1, 0, 0));
        is(2, x.step(1, 0, 2));
        is(4, x.step(1, 1, 0));
        is(2, x.party(1, 1, 4));
        is(1, x.party(0, 0, 4));
        is(1, x.party(0, 1, 3));
        is(1, x.party(0, 2, 2));
        is(200, x.count(11));
        is(2, lines("pay 2 1;find 2 7;"));
        is(7, x.bill(2, 7));
        is(3, x.count(2));
        anew(4);
        is(9, lines("open 0 1 2 9 0;blank 0 3 1;blank 0 4 1;present 0;hand 0 3;notify 0 3 2;notify 0 2 1;pay 0 3;pay 0 2;"));
        is(2, x.bill(0, 7));
        // a delivery without recourse is a line, but can't be done
        is(0, lines("deliver 0 5 1 without;"));
        is(30, x.refused());
        // OPEN is told by the word alone
        is(0, lines("draw 1 1 12 5 5;"));
        is(0, lines("open 1 1 12 5 5;"));
        is(1, lines("open 1 1 2 5 5;"));
        is(1, x.bill(1, 5));
        anewText();
    }

    private static void anewText() {
        x.image(1);
        tape("day 4;");
        is(1, x.text(true));
        is(4, x.count(0));
        is(0, x.count(1));
        is(2, x.count(2));
        is(800, x.count(3));
        is(0, x.count(4));
        is(0, x.count(7));
        is(0, x.refused());
        // a bill drawn then has nothing of the one that was there
        is(0, x.draw(5, 6, 7, 3, 2));
        int[] due = {5, 6, 7, 3, 6, 0, 0, 7, 0, -1, 0, 0, 7, 7, 1, 0, -1, 1, 2, 0};
        for (int what = 0; what < due.length; what++) {
            is(due[what], x.bill(0, what));
        }
        for (int party = 0; party < 2; party++) {
            is(-1, x.party(0, party, 2));
            is(0, x.party(0, party, 3));
            is(0, x.party(0, party, 4));
        }
        x.pass(0, 1, 2, 0, false);
        is(0, x.step(0, 0, 4));
        is(0, x.step(0, 0, 5));
        is(0, x.step(0, 0, 6));
        is(2, x.bill(0, 13));
        is(1, x.bill(0, 14));
        is(true, x.again(1));
        is(2, x.count(1));
        // the same behind a bill that was accepted, lost, taken up, done
        x.text(true);
        x.day(9);
        x.draw(3, 1, 12, 9, 0);
        x.accept(0);
        x.cash(1, 0);
        x.pass(0, 10, 4, 7, true);
        x.present(0);
        x.tell(0, -1, 1);
        x.defend(0, 0, false);
        x.release(0, 2);
        is(0, x.pay(0, 1));
        x.defend(0, 1, false);
        x.find(0, 6);
        x.pass(0, 3, 3, 0, false);
        x.cash(1, 50);
        is(9, x.pay(0, 0));
        x.draw(3, 1, 2, 9, 0);
        x.accept(1);
        x.present(1);
        x.draw(3, 1, 2, 9, 0);
        x.find(2, 5);
        x.pass(2, 0, 6, 9, false);
        is(1, x.bill(2, 16));
        is(0, x.text(true));
        is(0, x.count(0));
        for (int b = 0; b < 3; b++) {
            is(b, x.draw(5, 6, 7, 3, 6));
            for (int what = 0; what < due.length; what++) {
                is(due[what], x.bill(b, what));
            }
            for (int party = 0; party < 2; party++) {
                is(-1, x.party(b, party, 2));
                is(0, x.party(b, party, 3));
                is(0, x.party(b, party, 4));
            }
            is(0, x.find(b, 2));
            is(0, x.step(b, 0, 4));
            is(0, x.step(b, 0, 5));
            is(0, x.step(b, 0, 6));
            is(0, x.forge(b, 7, 2 + 1, 9, true));
            is(0, x.step(b, 1, 6));
            is(1, x.bill(b, 19));
        }
        x.again(1);
        // all is as at first ahead of the text, be there a fault in it or not
        tape("day 4");
        is(-1, x.text(true));
        is(0, x.count(1));
        is(0, x.refused());
        is(5, x.fault());
    }

    private static void fault() {
        anew(5);
        is(0, fault("x"));
        is(0, fault("dayx 1;"));
        is(0, fault("dayz 1;"));
        is(0, fault("da"));
        is(0, fault(";"));
        is(2, fault("  7"));
        is(3, fault("day;"));
        is(4, fault("day x;"));
        is(6, fault("day 1 2;"));
        is(6, fault("day 1 notice;"));
        is(5, fault("day 1"));
        is(8, fault("day 1  \n"));
        is(4, fault("day 10000;"));
        is(7, fault("day 1; 12345"));
        is(0, fault("99999"));
        is(5, fault("day 1,"));
        is(4, fault("day -1;"));
        is(0, fault("Day 1;"));
        is(3, fault("day\t1;"));
        is(6, fault("day 1;\u00e9"));
        is(6, fault("day 1;\0"));
        is(6, fault("cash 1;"));
        is(12, fault("blank 0 1 2 x;"));
        is(19, fault("blank 0 1 2 notice notice;"));
        is(20, fault("blank 0 1 2 without notice;"));
        is(14, fault("forge 0 1 2 3 without;"));
        is(9, fault("find 0 1 notice;"));
        is(0, fault("pass 0 0 1 2;"));
        is(0, fault("notice;"));
        is(0, fault("zzzz"));
        anew(5);
        String[] bare = {"day 1", "cash 1 1", "grace 1", "draw 1 1 1 1 1", "open 1 1 1 1 1", "accept 1", "find 1 1", "real 1 1", "personal 1 1",
            "present 1", "hand 1 1", "notify 1 1 1", "release 1 1", "pay 1 1"};
        for (String line : bare) {
            is(line.length() + 1, fault(line + " notice;"));
            is(line.length() + 1, fault(line + " without;"));
            is(line.length() - 1, fault(line.substring(0, line.length() - 1) + ";"));
            is(line.length() + 1, fault(line + " 1;"));
            is(line.length(), fault(line));
        }
        for (String word : new String[] {"blank", "special", "agent", "deliver"}) {
            is(0, lines(word + " 0 1 1 notice without;"));
            is(30, x.refused());
            is(word.length() + 5, fault(word + " 0 1 ;"));
        }
        // a tape that is full to its last byte
        anew(5);
        is(0, fault("z".repeat(600)));
        is(4, fault("day " + "0".repeat(596)));
        is(600, fault("day 1;".repeat(99) + "day  1"));
        is(600, fault("day 1;".repeat(99) + "day   "));
        is(600, fault("day 1;".repeat(99) + "notify"));
        is(594, fault("day 1;".repeat(99) + "notifz"));
        x.image(0);
        is(100, lines("day 1;".repeat(100)));
        is(100, x.count(0));
        x.again(0);
        x.end(0);
        // the latest text alone counts
        is(0, lines(""));
        is(-1, x.fault());
        is(0, x.count(0));
    }

    private static void refused() {
        anew(6);
        is(30, x.day(0));
        is(30, x.refused());
        is(-2, x.bill(0, 0));
        is(30, x.refused());
        x.day(1);
        is(0, x.refused());
        is(-30, x.draw(0, 0, 0, 0, 0));
        is(30, x.refused());
        x.draw(0, 1, 2, 50, 0);
        is(7, x.pay(0, 1));
        is(7, x.refused());
        is(3, x.pay(0, 0));
        is(3, x.refused());
        is(1, x.present(0));
        is(0, x.refused());
        is(31, x.present(0));
        is(31, x.refused());
        x.tell(0, -1, 1);
        x.cash(0, 49);
        is(32, x.pay(0, 1));
        is(32, x.refused());
        is(6, x.count(7));
    }

    private static void dayCashGrace() {
        anew(7);
        is(30, x.day(0));
        is(30, x.day(100));
        is(30, x.day(-1));
        is(30, x.day(Integer.MAX_VALUE));
        is(0, x.count(0));
        for (int i = 1; i <= 10; i++) {
            is(0, x.day(99));
        }
        is(30, x.day(10));
        is(990, x.count(0));
        is(0, x.day(9));
        is(30, x.day(1));
        is(999, x.count(0));
        anew(8);
        is(0, x.cash(7, 9999));
        is(0, x.cash(0, 0));
        is(9999, x.count(17));
        is(0, x.count(10));
        is(30, x.cash(7, 10000));
        is(30, x.cash(7, -1));
        is(30, x.cash(8, 5));
        is(30, x.cash(-1, 5));
        is(9999 + 600, x.count(3));
        anew(9);
        is(0, x.grace(9));
        is(30, x.grace(10));
        is(30, x.grace(0));
        is(9, x.count(2));
        is(0, x.grace(1));
        is(1, x.count(2));
    }

    private static void draw() {
        anew(10);
        x.day(3);
        is(-30, x.draw(8, 1, 2, 50, 10));
        is(-30, x.draw(0, -1, 2, 50, 10));
        is(-30, x.draw(0, 1, 8, 50, 10));
        is(-30, x.draw(0, 1, 9, 50, 10));
        is(-30, x.draw(0, 1, 18, 50, 10));
        is(-30, x.draw(0, 1, -1, 50, 10));
        is(-30, x.draw(0, 1, Integer.MIN_VALUE, 50, 10));
        is(-30, x.draw(0, 1, 2, 0, 10));
        is(-30, x.draw(0, 1, 2, 1000, 10));
        is(-30, x.draw(0, 1, 2, 50, -1));
        is(-30, x.draw(0, 1, 2, 50, 100));
        is(0, x.count(1));
        is(0, x.draw(0, 1, 2, 999, 99));
        is(1, x.draw(4, 4, 14, 1, 0));
        is(2, x.draw(0, 1, 10, 1, 0));
        is(3, x.draw(0, 1, 17, 1, 0));
        is(-30, x.draw(0, 1, 2, 50, 10));
        is(4, x.count(1));
        is(102, x.bill(0, 4));
        is(0, x.bill(0, 5));
        is(0, x.bill(0, 11));
        is(2, x.bill(0, 12));
        is(4, x.bill(1, 2));
        is(1, x.bill(1, 5));
        is(4, x.bill(1, 7));
        is(1, x.bill(1, 11));
        is(-1, x.bill(1, 12));
        is(4, x.bill(1, 13));
        is(1, x.bill(1, 14));
        is(7, x.bill(3, 7));
    }

    private static void accept() {
        anew(11);
        is(30, x.accept(0));
        x.draw(0, 1, 2, 50, 0);
        is(30, x.accept(1));
        is(30, x.accept(-1));
        is(-1, x.party(0, 0, 0));
        is(0, x.party(0, 0, 1));
        is(0, x.accept(0));
        is(31, x.accept(0));
        is(1, x.bill(0, 6));
        is(1, x.party(0, 0, 0));
        is(1, x.party(0, 0, 1));
        x.draw(0, 1, 2, 50, 0);
        x.present(1);
        is(31, x.accept(1));
    }

    private static void pass() {
        anew(12);
        is(30, x.pass(0, 0, 1, 0, false));
        x.draw(0, 1, 2, 50, 5);
        is(30, x.pass(0, 4, 3, 0, false));
        is(30, x.pass(0, -1, 3, 0, false));
        is(30, x.pass(0, 9, 3, 0, false));
        is(30, x.pass(0, 13, 3, 0, false));
        is(30, x.pass(0, 14, 3, 0, false));
        is(30, x.pass(0, 0, 2, 0, false));
        is(30, x.pass(0, 0, 8, 0, false));
        is(30, x.pass(0, 0, -1, 0, false));
        is(30, x.pass(0, 0, 3, -1, false));
        is(30, x.pass(0, 0, 3, 1000, false));
        is(30, x.pass(1, 0, 3, 0, false));
        is(0, x.bill(0, 8));
        is(0, x.pass(0, 11, 3, 999, true));
        is(1, x.step(0, 0, 6));
        is(999, x.step(0, 0, 4));
        is(1, x.step(0, 0, 5));
        for (int i = 1; i < 12; i++) {
            is(0, x.pass(0, 0, 3 + i % 2, 0, false));
        }
        is(30, x.pass(0, 0, 7, 0, false));
        is(30, x.forge(0, 1, 7, 0, false));
        is(30, x.find(0, 7));
        x.draw(0, 1, 2, 50, 0);
        x.accept(1);
        x.present(1);
        is(31, x.pass(1, 0, 3, 0, false));
        is(30, x.pass(1, 0, 2, 0, false));
        is(31, x.forge(1, 0, 3, 0, false));
        is(31, x.find(1, 3));
        chainByPassing();
    }

    /** Terms 2: what each sort of step makes of the chain. */
    private static void chainByPassing() {
        anew(12);
        x.draw(0, 1, 2, 50, 5);
        x.pass(0, 1, 3, 10, false);
        chain(0, 0, 3, 3, 3, 0);
        x.pass(0, 0, 4, 0, false);
        chain(0, 1, -1, 4, 2, 0);
        x.pass(0, 3, 3, 0, false);
        chain(0, 1, -1, 3, 3, 0);
        x.pass(0, 3, 2, 50, false);
        chain(0, 1, -1, 2, 1, 0);
        x.pass(0, 2, 5, 50, false);
        chain(0, 2, 5, 2, 1, 0);
        // an agent passes on an agency alone, whatever the sort
        x.pass(0, 0, 6, 50, false);
        chain(0, 2, 6, 2, 1, 0);
        is(1, x.bill(0, 17));
        x.pass(0, 3, 7, 50, false);
        chain(0, 2, 6, 2, 1, 1);
        is(0, x.bill(0, 17));
        // back in the agent's hand it isn't loose, though he does not own it
        x.pass(0, 3, 6, 50, false);
        chain(0, 2, 6, 2, 1, 0);
        is(1, x.bill(0, 17));
        deliveryToAgent();
        anew(12);
        // delivered back to the owner to whose order it is, it is loose no more
        x.draw(0, 1, 2, 50, 5);
        x.pass(0, 3, 3, 50, false);
        chain(0, 0, 2, 2, 1, 1);
        x.pass(0, 3, 2, 0, false);
        chain(0, 0, 2, 2, 1, 0);
        x.pass(0, 2, 3, 0, false);
        x.pass(0, 1, 2, 9, false);
        chain(0, 2, 2, 2, 1, 0);
        x.pass(0, 3, 4, 9, false);
        x.pass(0, 3, 2, 9, false);
        chain(0, 2, 2, 2, 1, 0);
        // by who has no right: broken, as it was ahead of that
        x.pass(0, 3, 5, 9, false);
        x.pass(0, 1, 6, 9, false);
        chain(0, 2, 2, 2, 1, 1);
        is(7, x.bill(0, 16));
        x.pass(0, 3, 2, 9, false);
        chain(0, 2, 2, 2, 1, 1);
        is(7, x.bill(0, 16));
        dueCourse();
    }

    /** Terms 2: of the agent it is not asked that he is the owner, and the owner's hand is not the agent's. */
    private static void deliveryToAgent() {
        x.pass(0, 3, 2, 50, false);
        chain(0, 2, 6, 2, 1, 1);
        is(0, x.bill(0, 17));
        // found by another one, then brought to the agent, who can pass it on
        x.find(0, 7);
        x.pass(0, 3, 6, 0, true);
        chain(0, 2, 6, 2, 1, 0);
        x.pass(0, 1, 4, 0, false);
        chain(0, 2, 4, 2, 1, 0);
        is(-1, x.bill(0, 16));
        // one to whose order it is must be the owner: 4 took a lost bill without value
        anew(12);
        x.draw(0, 1, 12, 50, 5);
        x.find(0, 3);
        x.pass(0, 1, 4, 0, false);
        x.pass(0, 3, 5, 0, false);
        x.pass(0, 3, 4, 0, false);
        chain(0, 0, 4, 2, 1, 1);
        // the finder's agent has it, though the owner never passed it on
        x.pass(0, 2, 6, 0, false);
        chain(0, 2, 6, 2, 1, 1);
        x.pass(0, 3, 5, 0, false);
        chain(0, 2, 6, 2, 1, 1);
        x.pass(0, 3, 6, 0, false);
        chain(0, 2, 6, 2, 1, 0);
        // a cure goes along the same chain
        anew(12);
        x.draw(0, 1, 2, 50, 5);
        x.pass(0, 3, 3, 0, false);
        x.forge(0, 2, 4, 0, false);
        x.pass(0, 2, 5, 0, false);
        x.pass(0, 3, 0, 0, false);
        is(-1, x.bill(0, 19));
        x.pass(0, 3, 5, 0, false);
        is(1, x.bill(0, 19));
    }

    private static void dueCourse() {
        // class 2 goes on as 2
        anew(12);
        x.draw(0, 1, 12, 50, 1);
        x.pass(0, 3, 3, 1, false);
        x.pass(0, 3, 4, 0, false);
        x.pass(0, 3, 5, 1, true);
        is(2, x.bill(0, 14));
        anew(12);
        x.draw(0, 1, 12, 50, 1);
        x.draw(0, 1, 12, 50, 1);
        x.draw(0, 1, 12, 50, 1);
        x.draw(0, 1, 12, 50, 0);
        x.pass(0, 3, 3, 1, true);
        is(1, x.bill(0, 14));
        x.pass(0, 3, 4, 0, false);
        is(1, x.bill(0, 14));
        x.day(1);
        x.pass(1, 3, 4, 1, false);
        is(3, x.bill(1, 14));
        x.day(1);
        x.pass(2, 3, 4, 1, false);
        is(1, x.bill(2, 14));
        // dishonoured on the same day, but ahead of it
        anew(12);
        x.draw(0, 1, 12, 50, 0);
        x.draw(0, 1, 12, 50, 0);
        x.pass(0, 3, 3, 1, false);
        x.present(0);
        is(3, x.bill(0, 14));
        x.present(1);
        x.pass(1, 3, 3, 1, false);
        is(1, x.bill(1, 14));
    }

    private static void chain(int bill, int payable, int whom, int owner, int grade, int loose) {
        if (payable != x.bill(bill, 11) || whom != x.bill(bill, 12) || owner != x.bill(bill, 13) || grade != x.bill(bill, 14) || loose != x.bill(bill, 15)) {
            wrong++;
            System.out.println("promise " + promise + ", " + Thread.currentThread().getStackTrace()[2] + ": the chain is " + x.bill(bill, 11) + " " + x.bill(bill, 12)
                    + " " + x.bill(bill, 13) + " " + x.bill(bill, 14) + " " + x.bill(bill, 15));
        }
    }

    private static void forge() {
        anew(13);
        is(30, x.forge(0, 1, 3, 0, false));
        x.draw(0, 1, 2, 50, 5);
        is(30, x.forge(0, 2, 3, 0, false));
        is(30, x.forge(0, 8, 3, 0, false));
        is(30, x.forge(0, -1, 3, 0, false));
        is(30, x.forge(0, 1, 2, 0, false));
        is(30, x.forge(0, 1, 8, 0, false));
        is(30, x.forge(0, 1, 3, 1000, false));
        is(30, x.forge(0, 1, 3, -1, false));
        is(30, x.forge(1, 1, 3, 0, false));
        // a name that is not the one to whose order it is: wrong, not forged
        is(0, x.forge(0, 1, 3, 7, true));
        is(0, x.bill(0, 16));
        is(13, x.why(0, 1, 2, 0));
        is(1, x.step(0, 0, 0));
        is(2, x.step(0, 0, 1));
        is(1, x.step(0, 0, 2));
        is(7, x.step(0, 0, 4));
        is(1, x.step(0, 0, 5));
        is(0, x.step(0, 0, 6));
        // to bearer it breaks nothing
        x.draw(0, 1, 12, 50, 5);
        is(0, x.forge(1, 0, 3, 7, false));
        chain(1, 0, 3, 3, 3, 0);
        is(1, x.bill(1, 17));
        is(0, x.party(1, 2, 1));
        is(0, x.party(1, 2, 0));
    }

    private static void find() {
        anew(14);
        is(30, x.find(0, 1));
        x.draw(0, 1, 12, 50, 5);
        is(30, x.find(0, 2));
        is(30, x.find(0, 8));
        is(30, x.find(0, -1));
        is(0, x.find(0, 3));
        chain(0, 1, -1, 2, 1, 1);
        is(3, x.bill(0, 7));
        is(4, x.step(0, 0, 0));
        is(-1, x.step(0, 0, 1));
        is(-1, x.step(0, 0, 2));
        is(0, x.step(0, 0, 4));
        is(0, x.step(0, 0, 5));
        // without value nothing comes of it
        x.pass(0, 3, 4, 0, false);
        chain(0, 1, -1, 2, 1, 1);
        x.pass(0, 1, 5, 0, false);
        chain(0, 0, 5, 2, 1, 1);
        // delivered about, not to the owner
        x.pass(0, 3, 6, 0, false);
        x.pass(0, 3, 5, 0, false);
        chain(0, 0, 5, 2, 1, 1);
        // in due course it is good
        x.pass(0, 0, 6, 1, false);
        chain(0, 1, -1, 6, 3, 0);
        // the owner finds it: loose, till he gets it
        x.find(0, 7);
        x.find(0, 6);
        chain(0, 1, -1, 6, 3, 1);
        x.pass(0, 3, 7, 0, false);
        x.pass(0, 3, 6, 0, false);
        chain(0, 1, -1, 6, 3, 0);
        // who was owner first with class 1 gets it loose in due course with 3, later with 1 again
        anew(14);
        x.draw(0, 1, 12, 50, 5);
        x.pass(0, 3, 4, 5, false);
        x.find(0, 7);
        x.pass(0, 3, 2, 5, false);
        chain(0, 1, -1, 2, 3, 0);
        x.pass(0, 3, 6, 0, false);
        chain(0, 1, -1, 6, 2, 0);
        x.pass(0, 3, 2, 5, false);
        chain(0, 1, -1, 2, 1, 0);
    }

    private static void defend() {
        anew(15);
        is(30, x.defend(0, 0, true));
        x.draw(0, 1, 12, 50, 0);
        is(30, x.defend(0, 0, true));
        x.accept(0);
        is(0, x.defend(0, 0, false));
        is(2, x.party(0, 0, 4));
        is(31, x.defend(0, 0, false));
        is(0, x.defend(0, 0, true));
        is(3, x.party(0, 0, 4));
        is(31, x.defend(0, 0, true));
        is(0, x.defend(0, 1, true));
        is(1, x.party(0, 1, 4));
        is(30, x.defend(0, 2, true));
        is(30, x.defend(0, -1, true));
        x.forge(0, 5, 3, 1, false);
        is(30, x.defend(0, 2, true));
        x.pass(0, 0, 4, 1, false);
        is(0, x.defend(0, 3, true));
        x.pass(0, 3, 5, 1, false);
        is(30, x.defend(0, 4, true));
    }

    private static void present() {
        anew(16);
        is(30, x.present(0));
        is(30, x.present(-1));
        x.draw(0, 1, 2, 50, 1);
        is(31, x.present(0));
        x.day(1);
        x.accept(0);
        is(0, x.present(0));
        is(50, x.count(11));
        is(150, x.count(12));
        is(1, x.count(4));
        is(1, x.count(6));
        is(0, x.count(5));
        is(1, x.bill(0, 10));
        is(2, x.bill(0, 7));
        is(31, x.present(0));
        // too little cash
        x.draw(0, 1, 2, 51, 0);
        x.accept(1);
        is(1, x.present(1));
        is(1, x.bill(1, 9));
        is(31, x.present(1));
        is(1, x.count(4));
        // no title
        x.draw(0, 1, 2, 5, 0);
        x.pass(2, 3, 3, 0, false);
        is(31, x.present(2));
        // the hand is full
        x.draw(0, 1, 2, 50, 0);
        x.accept(3);
        x.cash(2, 9990);
        is(0, x.present(3));
        is(9999, x.count(12));
        is(0, x.count(11));
    }

    private static void tell() {
        anew(17);
        is(30, x.tell(0, -1, 1));
        x.draw(0, 1, 12, 50, 0);
        x.pass(0, 0, 3, 5, false);
        x.pass(0, 3, 4, 5, false);
        x.forge(0, 3, 5, 5, false);
        x.pass(0, 0, 6, 5, false);
        is(31, x.tell(0, -1, 1));
        is(1, x.present(0));
        is(30, x.tell(0, -1, 0));
        is(30, x.tell(0, -1, 3));
        is(30, x.tell(0, -1, 4));
        is(30, x.tell(0, -1, 6));
        is(30, x.tell(0, -1, -1));
        is(30, x.tell(0, -2, 1));
        is(30, x.tell(0, 6, 1));
        is(30, x.tell(0, 2, 2));
        is(30, x.tell(0, 2, 5));
        is(30, x.tell(0, 0, 1));
        is(30, x.tell(1, -1, 1));
        is(31, x.tell(0, 5, 1));
        is(31, x.tell(0, 3, 1));
        x.day(2);
        is(0, x.tell(0, -1, 5));
        is(2, x.party(0, 5, 2));
        is(31, x.tell(0, -1, 5));
        x.day(1);
        is(31, x.tell(0, -1, 2));
        x.day(1);
        is(0, x.tell(0, 5, 2));
        is(4, x.party(0, 2, 2));
        x.day(3);
        is(31, x.tell(0, 2, 1));
        x.grace(3);
        is(0, x.tell(0, 2, 1));
        // the hand is bound by its rank, and by its title
        anew(17);
        x.draw(0, 1, 12, 50, 0);
        x.pass(0, 0, 3, 5, false);
        x.pass(0, 0, 4, 5, false);
        x.pass(0, 0, 3, 5, false);
        x.present(0);
        is(3, x.bill(0, 18));
        is(30, x.tell(0, -1, 3));
        is(30, x.tell(0, -1, 4));
        is(0, x.tell(0, -1, 2));
        x.find(0, 5);
        is(31, x.tell(0, -1, 1));
    }

    private static void release() {
        anew(18);
        is(30, x.release(0, 1));
        x.draw(0, 1, 12, 50, 0);
        is(30, x.release(0, 0));
        is(30, x.release(0, 2));
        x.pass(0, 0, 3, 5, false);
        x.pass(0, 3, 4, 5, false);
        x.pass(0, 0, 5, 5, false);
        is(30, x.release(0, 3));
        is(0, x.release(0, 4));
        is(0, x.party(0, 2, 3));
        is(1, x.party(0, 4, 3));
        is(0, x.release(0, 2));
        is(1, x.party(0, 2, 3));
        is(1, x.party(0, 4, 3));
        is(0, x.party(0, 1, 3));
        is(15, x.why(0, 2, 1, 0));
        is(2, x.why(0, 2, 1, 1));
        // the first cause stays
        is(15, x.why(0, 4, 1, 0));
        is(4, x.why(0, 4, 1, 1));
        is(31, x.release(0, 4));
        // later ones are not freed by it
        x.pass(0, 0, 6, 5, false);
        is(0, x.party(0, 5, 3));
        x.find(0, 7);
        is(31, x.release(0, 1));
        x.draw(0, 1, 2, 50, 0);
        x.accept(1);
        x.present(1);
        is(31, x.release(1, 1));
        is(30, x.release(1, 2));
    }

    private static void pay() {
        anew(19);
        is(30, x.pay(0, 0));
        x.draw(0, 1, 12, 50, 0);
        is(30, x.pay(0, 2));
        is(30, x.pay(0, -1));
        is(3, x.pay(0, 0));
        x.pass(0, 0, 3, 5, false);
        x.pass(0, 0, 4, 5, false);
        x.pass(0, 3, 5, 0, false);
        x.present(0);
        is(8, x.pay(0, 3));
        is(3, x.pay(0, 4));
        x.tell(0, -1, 3);
        x.tell(0, 3, 2);
        x.tell(0, 3, 1);
        x.cash(2, 50);
        is(0, x.pay(0, 2));
        is(0, x.count(12));
        is(150, x.count(15));
        is(2, x.bill(0, 7));
        chain(0, 0, 2, 2, 1, 0);
        is(1, x.party(0, 3, 3));
        is(1, x.party(0, 2, 3));
        is(0, x.party(0, 1, 3));
        is(16, freedOf(3));
        is(4, x.pay(0, 3));
        x.cash(0, 49);
        is(32, x.pay(0, 1));
        x.cash(0, 9999);
        x.cash(2, 9999);
        is(0, x.pay(0, 1));
        is(9949, x.count(10));
        is(9999, x.count(12));
        is(0, x.bill(0, 7));
        is(0, x.bill(0, 10));
        // the drawer never owned it: class 1; the chain goes on from there
        chain(0, 0, 0, 0, 1, 0);
        x.pass(0, 1, 6, 5, false);
        is(6, x.bill(0, 13));
        is(1, x.bill(0, 17));
        is(5, x.pay(0, 1));
        is(1, x.why(0, 1, 1, 1));
        is(16, x.why(0, 1, 1, 0));
        is(2, x.count(4));
        // the steps' owners are as they were
        is(3, x.step(0, 0, 8));
        is(3, x.step(0, 0, 9));
        is(5, x.step(0, 2, 8));
        // the acceptor pays himself
        x.draw(0, 1, 1, 50, 0);
        x.accept(1);
        is(0, x.pay(1, 0));
        is(100, x.count(11));
        is(1, x.bill(1, 10));
        is(2, x.pay(1, 0));
    }

    /** Gives the bill to somebody behind the party, so that why() tells of what it is freed. */
    private static int freedOf(int party) {
        x.image(2);
        x.pass(0, 1, 7, 5, false);
        int cause = x.why(0, party, 1, 0);
        x.again(2);
        return cause;
    }

    private static void count() {
        anew(20);
        x.draw(0, 1, 2, 50, 0);
        x.draw(0, 1, 2, 50, 0);
        x.draw(0, 1, 2, 50, 0);
        x.accept(0);
        x.present(0);
        x.present(1);
        x.day(5);
        x.day(0);
        x.grace(4);
        x.feed(0, 0, 0, 0, 0);
        is(5, x.count(0));
        is(3, x.count(1));
        is(4, x.count(2));
        is(800, x.count(3));
        is(1, x.count(4));
        is(1, x.count(5));
        is(1, x.count(6));
        is(1, x.count(7));
        is(20, x.count(8));
        is(-1, x.count(9));
        is(50, x.count(11));
        is(150, x.count(12));
        is(100, x.count(17));
        is(-1, x.count(18));
        is(-1, x.count(-1));
        is(-1, x.count(Integer.MIN_VALUE));
    }

    private static void bill() {
        anew(21);
        is(-2, x.bill(0, 0));
        x.day(2);
        x.draw(3, 1, 12, 50, 6);
        int[] due = {3, 1, 2, 50, 8, 1, 0, 2, 0, -1, 0, 1, -1, 2, 1, 0, -1, 1, 2, 0};
        for (int what = 0; what < due.length; what++) {
            is(due[what], x.bill(0, what));
        }
        is(-2, x.bill(0, 20));
        is(-2, x.bill(0, -1));
        is(-2, x.bill(1, 0));
        is(-2, x.bill(-1, 0));
        // rank
        x.pass(0, 0, 4, 1, false);
        is(3, x.bill(0, 18));
        x.pass(0, 0, 3, 1, false);
        is(1, x.bill(0, 18));
        x.pass(0, 0, 4, 1, false);
        is(3, x.bill(0, 18));
        x.forge(0, 5, 6, 1, false);
        x.pass(0, 1, 5, 1, false);
        is(7, x.bill(0, 18));
        cures();
    }

    private static void cures() {
        anew(21);
        x.draw(3, 1, 2, 50, 6);
        x.find(0, 4);
        is(-1, x.bill(0, 19));
        x.forge(0, 2, 5, 1, false);
        is(1, x.bill(0, 19));
        x.find(0, 6);
        is(-1, x.bill(0, 19));
        x.forge(0, 5, 7, 1, false);
        is(2, x.bill(0, 19));
        x.forge(0, 1, 2, 1, false);
        is(-1, x.bill(0, 19));
        // to bearer: a forged step that breaks nothing still cures a loss
        anew(21);
        x.draw(3, 1, 12, 50, 6);
        x.find(0, 4);
        x.forge(0, 2, 5, 0, false);
        is(-1, x.bill(0, 16));
        is(0, x.bill(0, 17));
        is(1, x.bill(0, 19));
        // of two such, the last one is enough
        x.pass(0, 0, 6, 0, false);
        x.forge(0, 2, 7, 0, false);
        is(1, x.bill(0, 19));
        x.pass(0, 0, 2, 0, false);
        is(0, x.bill(0, 19));
        // behind a taking up, what was ahead counts no more
        anew(21);
        x.draw(3, 1, 12, 50, 0);
        x.forge(0, 4, 5, 9, false);
        x.present(0);
        x.tell(0, -1, 1);
        is(0, x.pay(0, 1));
        is(0, x.bill(0, 19));
        x.find(0, 6);
        x.forge(0, 3, 7, 0, false);
        is(2, x.bill(0, 16));
        is(1, x.bill(0, 19));
        // .. nor is it to bearer any more, as it was at first
        anew(21);
        x.draw(3, 1, 12, 50, 0);
        x.present(0);
        x.tell(0, -1, 1);
        is(0, x.pay(0, 1));
        x.find(0, 6);
        x.forge(0, 5, 7, 9, false);
        is(-1, x.bill(0, 19));
        // as many steps as there may be, each of them forged
        anew(21);
        x.draw(3, 1, 2, 50, 0);
        for (int i = 0; i < 6; i++) {
            x.find(0, 4);
            x.forge(0, 2 + i % 2, 3 - i % 2, 9, false);
        }
        is(12, x.bill(0, 8));
        is(6, x.bill(0, 19));
    }

    private static void step() {
        anew(22);
        is(-2, x.step(0, 0, 0));
        x.draw(0, 1, 12, 50, 5);
        is(-2, x.step(0, 0, 0));
        x.day(3);
        x.pass(0, 12, 3, 7, true);
        x.pass(0, 3, 4, 8, false);
        int[] first = {2, 2, 2, 3, 7, 1, 1, 3, 2, 1};
        int[] second = {3, 3, -1, 4, 8, 0, 0, 3, 2, 1};
        for (int what = 0; what < 10; what++) {
            is(first[what], x.step(0, 0, what));
            is(second[what], x.step(0, 1, what));
        }
        is(-2, x.step(0, 0, 10));
        is(-2, x.step(0, 0, -1));
        is(-2, x.step(0, 2, 0));
        is(-2, x.step(0, -1, 0));
        is(-2, x.step(1, 0, 0));
    }

    private static void party() {
        anew(23);
        is(-2, x.party(0, 0, 0));
        x.draw(6, 1, 12, 50, 0);
        x.pass(0, 0, 3, 7, false);
        x.pass(0, 3, 4, 8, false);
        int[][] due = {{-1, 0, -1, 0, 0, 3}, {6, 1, 0, 0, 0, 0}, {2, 1, -1, 1, 2, 5}, {-1, 0, -1, 1, 0, 3}};
        x.present(0);
        x.tell(0, -1, 1);
        x.defend(0, 2, false);
        x.release(0, 2);
        for (int p = 0; p < 4; p++) {
            for (int what = 0; what < 6; what++) {
                is(due[p][what], x.party(0, p, what));
            }
        }
        is(-2, x.party(0, 0, 6));
        is(-2, x.party(0, 0, -1));
        is(-2, x.party(0, 4, 0));
        is(-2, x.party(0, -1, 0));
        is(-2, x.party(1, 0, 0));
    }

    private static void whyIs(int party, int first, int second, int place, int third, int thirdPlace) {
        int[] got = {x.why(0, party, 0, 0), x.why(0, party, 1, 0), x.why(0, party, 1, 1), x.why(0, party, 2, 0), x.why(0, party, 2, 1)};
        int[] want = {first, second, place, third, thirdPlace};
        for (int i = 0; i < 5; i++) {
            if (got[i] != want[i]) {
                wrong++;
                System.out.println("promise 24, " + Thread.currentThread().getStackTrace()[2] + ": " + java.util.Arrays.toString(got));
                return;
            }
        }
        is(first == 0 ? 0 : -1, x.why(0, party, 0, 1));
    }

    private static void why() {
        anew(24);
        is(-2, x.why(0, 0, 0, 0));
        x.draw(0, 1, 12, 50, 1);
        is(-2, x.why(0, 2, 0, 0));
        is(-2, x.why(0, -1, 0, 0));
        is(-2, x.why(0, 1, 3, 0));
        is(-2, x.why(0, 1, -1, 0));
        is(-2, x.why(0, 1, 0, 2));
        is(-2, x.why(0, 1, 0, -1));
        whyIs(0, 3, 0, 0, 0, 0);
        whyIs(1, 7, 0, 0, 0, 0);
        x.accept(0);
        whyIs(0, 7, 0, 0, 0, 0);
        x.pass(0, 0, 3, 1, false);
        x.pass(0, 10, 4, 1, false);
        x.forge(0, 6, 5, 1, false);
        x.pass(0, 0, 2, 1, false);
        whyIs(2, 4, 0, 0, 0, 0);
        x.pass(0, 3, 7, 0, false);
        whyIs(3, 6, 0, 0, 0, 0);
        whyIs(4, 3, 12, 2, 0, 0);
        whyIs(6, 3, 0, 0, 0, 0);
        x.day(1);
        whyIs(0, 0, 0, 0, 0, 0);
        is(0, x.why(0, 0, 0, 1));
        x.cash(1, 0);
        x.present(0);
        whyIs(2, 8, 17, -1, 0, 0);
        x.tell(0, -1, 1);
        whyIs(1, 0, 0, 0, 0, 0);
        x.defend(0, 1, false);
        whyIs(1, 9, 20, -1, 0, 0);
        x.defend(0, 1, true);
        whyIs(1, 9, 19, -1, 0, 0);
        x.day(3);
        whyIs(2, 8, 18, -1, 0, 0);
        x.release(0, 5);
        whyIs(5, 5, 15, 5, 0, 0);
        whyIs(6, 3, 0, 0, 0, 0);
        x.find(0, 3);
        whyIs(1, 1, 14, -1, 0, 0);
        x.cash(1, 100);
        brokenAndDone();
    }

    private static void brokenAndDone() {
        anew(24);
        x.draw(0, 1, 2, 50, 0);
        x.find(0, 3);
        x.forge(0, 2, 4, 1, false);
        whyIs(0, 1, 11, 1, 12, 1);
        whyIs(3, 1, 11, 1, 12, 1);
        anew(24);
        x.draw(0, 1, 2, 50, 0);
        x.find(0, 3);
        x.pass(0, 0, 4, 1, false);
        whyIs(1, 1, 11, 1, 13, 1);
        anew(24);
        x.draw(0, 1, 2, 50, 0);
        x.accept(0);
        x.pay(0, 0);
        whyIs(0, 2, 0, 0, 0, 0);
        whyIs(1, 2, 0, 0, 0, 0);
        // a personal defence holds against class 1 alone
        anew(24);
        x.draw(0, 1, 12, 50, 0);
        x.accept(0);
        x.defend(0, 0, false);
        whyIs(0, 9, 20, -1, 0, 0);
        x.image(0);
        x.pass(0, 3, 3, 1, false);
        whyIs(0, 0, 0, 0, 0, 0);
        x.pass(0, 3, 4, 0, true);
        is(2, x.bill(0, 14));
        whyIs(0, 0, 0, 0, 0, 0);
        x.again(0);
        x.pass(0, 3, 3, 0, false);
        whyIs(0, 9, 20, -1, 0, 0);
    }

    /** A bill through 2, 3, 4 to 5, dishonoured. */
    private static void dishonoured(int sum) {
        x.draw(0, 1, 2, sum, 0);
        x.pass(0, 1, 3, 5, false);
        x.pass(0, 1, 4, 5, false);
        x.pass(0, 1, 5, 5, false);
        x.present(0);
    }

    private static void liableAndReach() {
        anew(25);
        is(-2, x.liable(0));
        is(-2, x.liable(-1));
        promise = 26;
        is(-2, x.reach(0));
        is(-2, x.reach(4));
        dishonoured(40);
        is(0, x.liable(0));
        is(30, x.reach(0));
        x.tell(0, -1, 3);
        promise = 25;
        is(8, x.liable(0));
        promise = 26;
        is(22, x.reach(0));
        x.day(2);
        x.tell(0, 3, 1);
        is(20, x.reach(0));
        x.day(1);
        is(0, x.reach(0));
        promise = 25;
        is(10, x.liable(0));
        x.cash(1, 10);
        x.draw(0, 1, 2, 40, 0);
        x.accept(1);
        is(1, x.liable(1));
        promise = 26;
        // a party that was told lately reaches the lesser ones, when the hand is late
        anew(26);
        dishonoured(40);
        x.day(2);
        x.tell(0, -1, 3);
        x.day(1);
        is(6, x.reach(0));
        x.find(0, 6);
        is(6, x.reach(0));
    }

    private static void runGainsEnds() {
        anew(27);
        is(-2, x.run(0, -1));
        dishonoured(60);
        is(0, x.run(0, -1));
        is(-2, x.run(0, 0));
        x.tell(0, -1, 4);
        x.tell(0, -1, 3);
        x.tell(0, -1, 2);
        x.tell(0, -1, 1);
        x.cash(3, 59);
        is(3, x.run(0, -1));
        is(4, x.run(0, 0));
        is(2, x.run(0, 1));
        is(1, x.run(0, 2));
        is(-2, x.run(0, 3));
        is(-2, x.run(0, -2));
        is(-2, x.run(1, -1));
        promise = 28;
        x.cash(5, 9990);
        is(9, x.gains(0, 5));
        is(0, x.gains(0, 4));
        is(0, x.gains(0, 3));
        is(0, x.gains(0, 2));
        is(-60, x.gains(0, 0));
        is(0, x.gains(0, 8));
        is(0, x.gains(0, -1));
        is(0, x.gains(1, 0));
        promise = 29;
        x.image(0);
        x.cash(0, 0);
        is(2, x.ends(0));
        x.again(0);
        is(0, x.ends(0));
        is(-1, x.ends(1));
        is(-1, x.ends(-1));
        // nothing was done by asking
        is(5, x.bill(0, 7));
        is(0, x.count(4));
        is(9990, x.count(15));
        // the acceptor's payment ends it
        anew(27);
        x.draw(0, 1, 2, 60, 0);
        x.accept(0);
        is(1, x.run(0, -1));
        is(0, x.run(0, 0));
        is(2, x.ends(0));
    }

    private static void owesAndWorth() {
        anew(30);
        x.draw(0, 1, 2, 60, 0);
        x.draw(0, 1, 2, 30, 0);
        x.draw(0, 1, 2, 7, 1);
        x.draw(1, 1, 2, 500, 0);
        for (int b = 0; b < 4; b++) {
            x.accept(b);
        }
        is(590, x.owes(1));
        is(0, x.owes(0));
        is(-1, x.owes(8));
        is(-1, x.owes(-1));
        promise = 31;
        is(90, x.worth(2));
        is(0, x.worth(1));
        is(-1, x.worth(8));
        is(-1, x.worth(-1));
        x.present(0);
        promise = 30;
        is(530, x.owes(1));
        promise = 31;
        is(30, x.worth(2));
        x.present(3);
        x.tell(3, -1, 1);
        promise = 30;
        // liable as acceptor and as drawer: once
        is(530, x.owes(1));
        x.cash(1, 500);
        promise = 31;
        is(530, x.worth(2));
        x.pass(3, 3, 3, 5, false);
        is(30, x.worth(2));
        is(0, x.worth(3));
    }

    private static void until() {
        anew(32);
        is(-1, x.until(0, 1));
        dishonoured(40);
        is(2, x.until(0, 4));
        is(2, x.until(0, 1));
        is(-1, x.until(0, 0));
        is(-1, x.until(0, 5));
        is(-1, x.until(0, -1));
        is(-1, x.until(1, 1));
        x.day(2);
        x.tell(0, -1, 3);
        is(-1, x.until(0, 3));
        is(4, x.until(0, 2));
        is(2, x.until(0, 4));
        x.day(50);
        is(4, x.until(0, 2));
        x.grace(9);
        is(11, x.until(0, 2));
        is(9, x.until(0, 4));
        // without title nobody but who was told
        x.find(0, 6);
        is(11, x.until(0, 1));
        is(-1, x.until(0, 4));
        // not below the hand's rank
        anew(32);
        x.draw(0, 1, 12, 40, 0);
        x.pass(0, 0, 3, 5, false);
        x.pass(0, 0, 4, 5, false);
        x.pass(0, 0, 3, 5, false);
        x.present(0);
        is(-1, x.until(0, 3));
        is(-1, x.until(0, 4));
        is(2, x.until(0, 2));
        // not signed, not dishonoured
        anew(32);
        x.draw(0, 1, 12, 40, 0);
        x.forge(0, 4, 3, 5, false);
        is(-1, x.until(0, 1));
        x.present(0);
        is(2, x.until(0, 1));
        is(-1, x.until(0, 2));
    }

    private static void sorts() {
        anew(33);
        is(-2, x.sorts(0, 0));
        x.draw(0, 1, 12, 40, 0);
        is(0, x.sorts(0, 0));
        x.pass(0, 0, 3, 5, false);
        x.pass(0, 10, 4, 5, false);
        x.pass(0, 3, 5, 5, false);
        x.forge(0, 1, 6, 5, false);
        x.pass(0, 1, 7, 5, false);
        x.find(0, 0);
        x.pass(0, 2, 1, 5, false);
        int[] due = {2, 2, 1, 1, 1, 1};
        for (int sort = 0; sort < 6; sort++) {
            is(due[sort], x.sorts(0, sort));
        }
        is(-2, x.sorts(0, 6));
        is(-2, x.sorts(0, -1));
        is(-2, x.sorts(1, 0));
    }

    private static void images() {
        anew(34);
        is(false, x.image(-1));
        is(false, x.image(3));
        promise = 35;
        is(false, x.again(0));
        is(false, x.again(-1));
        is(false, x.again(3));
        dishonoured(40);
        x.tell(0, -1, 4);
        x.release(0, 2);
        x.defend(0, 1, true);
        is(3, fault("day"));
        x.day(0);
        x.feed(0x64617920, 0x373b2020, 0x20202020, 0x20202020, 0x20202020);
        promise = 34;
        is(true, x.image(0));
        is(true, x.image(2));
        promise = 35;
        is(false, x.again(1));
        x.text(false);
        x.draw(0, 1, 2, 3, 4);
        x.pay(0, 4);
        x.cash(0, 9);
        x.grace(7);
        x.image(2);
        is(true, x.again(0));
        is(0, x.count(0));
        is(1, x.count(1));
        is(2, x.count(2));
        is(800, x.count(3));
        is(0, x.count(4));
        is(1, x.count(5));
        is(1, x.count(7));
        is(20, x.count(8));
        is(3, x.fault());
        is(30, x.refused());
        is(5, x.bill(0, 7));
        is(3, x.bill(0, 8));
        is(0, x.party(0, 4, 2));
        is(1, x.party(0, 2, 3));
        is(1, x.party(0, 1, 4));
        is(1, x.text(false));
        is(7, x.count(0));
        // an image is a copy, and may be taken up again
        x.feed(0, 0, 0, 0, 0);
        is(true, x.again(0));
        is(0, x.count(0));
        is(20, x.count(8));
        is(1, x.text(false));
        is(true, x.again(2));
        is(2, x.count(1));
        is(7, x.count(2));
        is(9, x.count(10));
    }

    private static void imagesOfAll() {
        anew(35);
        x.day(1);
        x.draw(3, 1, 12, 9, 0);
        x.forge(0, 4, 5, 9, false);
        x.pass(0, 10, 6, 3, true);
        x.accept(0);
        x.cash(1, 2);
        x.present(0);
        x.tell(0, -1, 1);
        x.defend(0, 3, false);
        x.pay(0, 1);
        x.find(0, 6);
        x.forge(0, 3, 7, 0, false);
        dishonouredAs(1);
        x.draw(2, 4, 6, 7, 8);
        x.pass(2, 3, 5, 6, true);
        x.pass(2, 0, 6, 6, true);
        tape("day 3;");
        x.image(1);
        tape("day 9;find 0 1;");
        x.text(true);
        x.draw(0, 0, 0, 1, 1);
        x.pass(0, 2, 1, 2, false);
        x.draw(1, 1, 1, 1, 1);
        x.find(1, 3);
        x.draw(1, 1, 1, 1, 1);
        x.draw(1, 1, 1, 1, 1);
        x.again(1);
        // the chain goes on from the image as it would have gone on
        x.pass(0, 3, 3, 5, false);
        is(3, x.bill(0, 16));
        is(-1, x.bill(0, 19));
        x.again(1);
        is(1, x.bill(0, 19));
        is(1, x.text(false));
        is(4, x.count(0));
    }

    private static void dishonouredAs(int bill) {
        x.draw(0, 1, 2, 30, 0);
        x.pass(bill, 1, 3, 5, false);
        x.present(bill);
        x.tell(bill, -1, 2);
        x.release(bill, 2);
    }

    public static void main(String[] args) {
        newObject();
        feed();
        end();
        text();
        fault();
        refused();
        dayCashGrace();
        draw();
        accept();
        pass();
        forge();
        find();
        defend();
        present();
        tell();
        release();
        pay();
        count();
        bill();
        step();
        party();
        why();
        liableAndReach();
        runGainsEnds();
        owesAndWorth();
        until();
        sorts();
        images();
        imagesOfAll();
        System.out.println(wrong == 0 ? "all promises hold" : wrong + " answers are not as due");
        if (wrong != 0) {
            System.exit(1);
        }
    }
}
