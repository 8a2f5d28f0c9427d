import java.util.ArrayList;
import java.util.Arrays;
import java.util.List;

/**
 * A test for each sentence of the document that names a boundary: the smallest and the largest number, one just
 * outside, nothing there yet, a place that is full, a refused call. Each begins with run("where: the sentence").
 *
 * Behind them every call of these runs that was refused, or that only asks, is looked at alone: an object that
 * had it and one that had not must answer alike whatever is asked or done next.
 */
public final class ClaimRowsEdges {
    private static final int UNKNOWN = -101, OUTSIDE = -102, STATE = -103, ROOM = -104, WHO = -105, TIME = -106, LIMIT = -107;
    private static final int MIN = Integer.MIN_VALUE, MAX = Integer.MAX_VALUE;
    private static final int MOST_CALLS = 512;
    private static final long MOST_CENTS = 10000000;
    private static final int[] NO_NUMBERS = {0, -1, MIN, MAX};
    private static final long[] NO_CENTS = {-1, 10000001, Long.MIN_VALUE, Long.MAX_VALUE, 1L << 32, (1L << 32) + 1, -(1L << 32)};
    private static final int[][] NEEDED = {{0}, {0, 1}, {0, 2}, {0, 2, 3}};
    private static final List<Run> RUNS = new ArrayList<>();
    private static int wrong = 0;

    public static void main(String[] args) {
        whatItIs();
        face();
        terms();
        refusals();
        promises();
        int looked = 0;
        for (Run run : RUNS) {
            looked += run.lookAtRefusals();
        }
        System.out.println(RUNS.size() + " sentences, " + looked + " calls that change nothing: "
            + (wrong == 0 ? "all answers are as due" : wrong + " answers are not as due"));
        if (wrong != 0) {
            System.exit(1);
        }
    }

    private static Run run(String sentence) {
        Run run = new Run(sentence);
        RUNS.add(run);
        return run;
    }

    private static void say(String fault) {
        wrong++;
        if (wrong <= 100) {
            System.out.println(fault);
        }
    }

    /** Numbers that are not least .. most: beside it, far away, and such as come to be inside if bits are cut off. */
    private static int[] outsideOf(int least, int most) {
        int[] tried = {least - 1, most + 1, -most - 1, least + 32, least + 256, least + 65536, MIN, MIN + most, MAX};
        return Arrays.stream(tried).filter(number -> number < least || number > most).toArray();
    }

    // ---- What it is, the public face

    private static void whatItIs() {
        Run r = run("What it is: the 512th call is answered, behind 511 that were");
        r.limit(0, 1).is(1);
        for (int number = 1; number <= 60; number++) {
            r.item(0, 1, 1, 0, 0).is(number);
            r.claim(number, 3, 0, 0).is(number);
            r.proof(number, 3).is(2);
            r.proof(number, 2).is(1);
            r.proof(number, 0).is(0);
            r.decide(number, 0).is(1);
        }
        while (r.calls.size() < MOST_CALLS - 1) {
            r.all(3).is(240);
        }
        r.item(3, MOST_CENTS, MOST_CENTS, 100000, 19).is(61);

        r = run("What it is: the 512th call is answered, behind 511 that were refused");
        while (r.calls.size() < MOST_CALLS - 1) {
            r.item(4, 1, 1, 1, 1).is(OUTSIDE);
        }
        r.item(3, 1, 1, 1, 1).is(1);
    }

    private static void face() {
        long[] constants = {ClaimRows.UNKNOWN, ClaimRows.OUTSIDE, ClaimRows.STATE, ClaimRows.ROOM, ClaimRows.WHO,
            ClaimRows.TIME, ClaimRows.LIMIT};
        for (int i = 0; i < constants.length; i++) {
            if (constants[i] != -101 - i) {
                say("The public face: constant " + i + " is " + constants[i] + ", due is " + (-101 - i));
            }
        }
    }

    // ---- Terms

    private static void terms() {
        termsItems();
        termsPosts();
        termsTable();
        termsClaims();
        termsProofs();
        termsSearches();
        termsClock();
        termsSum();
        termsDeciding();
        termsAppeal();
        termsShares();
        termsFound();
        termsLetters();
    }

    private static void termsItems() {
        Run r = run("Terms: items are numbered 1, 2, .. (100 at most)");
        r.pass(1, 0, true).is(UNKNOWN);
        for (int number = 1; number <= 100; number++) {
            r.item(0, 1, 1, 1, 1).is(number);
        }
        r.item(0, 1, 1, 1, 1).is(ROOM);
        r.item(3, 0, 0, 0, 0).is(ROOM);
        r.pass(1, 0, true).is(1);
        r.pass(100, 0, true).is(1);
        r.pass(101, 0, true).is(UNKNOWN);
        r.claim(100, 0, 0, 1).is(1);
        r.about(1, 1).is(100);
        r.claim(101, 0, 0, 1).is(UNKNOWN);
        r.found(100).is(STATE);
        r.found(101).is(UNKNOWN);

        r = run("Terms: what it is insured for (0: not)");
        r.table(0, 0, 40, 0).is(1);
        r.item(0, 100, 0, 0, 0).is(1);
        r.item(0, 100, 1, 0, 0).is(2);
        r.claim(1, 0, 0, 0).is(1);
        r.claim(2, 0, 0, 0).is(2);
        r.sum(1).is(40);
        r.sum(2).is(1);

        r = run("Terms: the day when it was handed in, each item its own");
        r.item(0, 1, 1, 5, 0).is(1);
        r.item(0, 1, 1, 9, 0).is(2);
        r.claim(1, 0, 0, 6).is(TIME);
        r.claim(1, 0, 0, 5).is(1);
        r.claim(2, 0, 0, 10).is(TIME);
        r.claim(2, 0, 0, 9).is(2);
    }

    private static void termsPosts() {
        Run r = run("Terms: they pass posts, one behind the other (8 at most)");
        r.item(0, 1, 1, 1, 1).is(1);
        r.item(0, 1, 1, 1, 1).is(2);
        for (int count = 1; count <= 8; count++) {
            r.pass(1, 5, false).is(count);
        }
        r.pass(1, 5, false).is(ROOM);
        r.pass(1, 0, true).is(ROOM);
        for (int count = 1; count <= 8; count++) {
            r.pass(2, count % 6, true).is(count);
        }
        r.pass(2, 5, true).is(ROOM);

        r = run("Terms: a ninth post that is refused shares nothing");
        r.lostItem(8).pay(1);
        r.posts(1, 0, 1, 0, 1, 0, 1, 0, 1);
        r.pass(1, 2, true).is(ROOM);
        r.pass(1, 2, false).is(ROOM);
        r.shares(1, 4, 4, 0, 0, 0, 0);

        r = run("Terms: each post tells whether the item is whole there");
        r.lostItem(8).pay(1);
        r.pass(1, 0, true).is(1);
        r.pass(1, 1, false).is(2);
        r.shares(1, 4, 4, 0, 0, 0, 0);
        r.pass(1, 2, true).is(3);
        r.shares(1, 0, 0, 8, 0, 0, 0);
    }

    private static void termsTable() {
        Run r = run("Terms: a table's row is 0 and 0 at first");
        for (int service = 0; service < 4; service++) {
            r.item(service, 100, 0, 7, 0).is(service + 1);
            for (int kind = 0; kind < 4; kind++) {
                r.claim(service + 1, kind, 0, 8).is(TIME);
                r.claim(service + 1, kind, 0, 7).is(4 * service + kind + 1);
                r.sum(4 * service + kind + 1).is(0);
            }
        }

        for (int changed = 0; changed < 16; changed++) {
            r = run("Terms: a table's row is for a service and a kind: row " + changed + " changes no other");
            r.table(changed / 4, changed % 4, 100, 3).is(1);
            for (int row = 0; row < 16; row++) {
                int item = r.item(row / 4, 100, 0, 7, 0).answer();
                if (row == changed) {
                    r.claim(item, row % 4, 0, 11).is(TIME);
                    r.claim(item, row % 4, 0, 10).is(row + 1);
                    r.sum(row + 1).is(new long[] {100, 10, 50, 100}[row % 4]);
                } else {
                    r.claim(item, row % 4, 0, 8).is(TIME);
                    r.claim(item, row % 4, 0, 7).is(row + 1);
                    r.sum(row + 1).is(0);
                }
            }
        }

        r = run("Terms: how many days behind the item's one a claim may be made");
        r.table(1, 1, 0, 4).is(1);
        for (int item = 1; item <= 4; item++) {
            r.item(1, 1, 1, 10, 0).is(item);
        }
        r.claim(1, 1, 0, 15).is(TIME);
        r.claim(1, 1, 0, 14).is(1);
        r.claim(2, 1, 0, 10).is(2);
        r.table(1, 1, 0, 3).is(1);
        r.claim(3, 1, 0, 14).is(TIME);
        r.claim(3, 1, 0, 13).is(3);
        r.table(1, 1, 0, 10000).is(1);
        r.claim(4, 1, 0, 10011).is(TIME);
        r.claim(4, 1, 0, 10010).is(4);
    }

    private static void termsClaims() {
        Run r = run("Terms: claims are numbered 1, 2, .. (60 at most)");
        for (int item = 1; item <= 16; item++) {
            r.item(0, 1, 1, 0, 0).is(item);
        }
        for (int number = 1; number <= 60; number++) {
            r.claim((number + 3) / 4, (number - 1) % 4, 0, 0).is(number);
        }
        r.claim(16, 0, 0, 0).is(ROOM);
        r.claim(16, 2, 1, 0).is(ROOM);
        r.about(60, 1).is(15);
        r.about(60, 2).is(3);
        r.about(61, 0).is(UNKNOWN);
        r.all(3).is(60);

        r = run("Terms: 60 claims at most, refused ones too");
        r.lostItem(1);
        for (int number = 1; number <= 60; number++) {
            r.ready(1, true).is(number);
            r.decide(number, 0).is(2);
        }
        r.claim(1, 0, 0, 0).is(ROOM);
        r.claim(1, 1, 0, 0).is(ROOM);
        r.appeal(60).is(1);

        r = run("Terms: a claim is open, paid or refused");
        r.lostItem(5);
        r.ready(1, true).is(1);
        r.about(1, 0).is(0);
        r.decide(1, 0).is(2);
        r.about(1, 0).is(2);
        r.ready(1, false).is(2);
        r.about(2, 0).is(0);
        r.decide(2, 0).is(1);
        r.about(2, 0).is(1);
        r.about(1, 0).is(2);

        int[][] may = {{0, WHO, WHO}, {0, 0, WHO}, {0, 0, WHO}, {0, WHO, WHO}};
        for (int kind = 0; kind < 4; kind++) {
            for (int who = 0; who < 3; who++) {
                r = run("Terms: who may: of 0 and 3 the sender (0), of 1 and 2 the one who gets it (1) too: " + who + " of " + kind);
                r.item(0, 1, 1, 0, 0).is(1);
                r.claim(1, kind, who, 0).is(may[kind][who] == 0 ? 1 : WHO);
                r.claim(1, kind, 0, 0).is(may[kind][who] == 0 ? STATE : 1);
            }
        }

        r = run("Terms: of an item and a kind there is at most one that is not refused");
        r.lostItem(5);
        r.item(0, 5, 0, 0, 0).is(2);
        r.ready(1, true).is(1);
        r.claim(1, 0, 0, 0).is(STATE);
        r.claim(1, 1, 0, 0).is(2);
        r.claim(1, 1, 1, 0).is(STATE);
        r.claim(2, 0, 0, 0).is(3);
        r.decide(1, 0).is(2);
        r.ready(1, false).is(4);
        r.claim(1, 0, 0, 0).is(STATE);
        r.decide(4, 0).is(1);
        r.claim(1, 0, 0, 0).is(STATE);
    }

    private static void termsProofs() {
        for (int kind = 0; kind < 4; kind++) {
            for (int proof = 0; proof < 4; proof++) {
                Run r = run("Terms: proofs that kind " + kind + " needs: proof " + proof);
                boolean needs = contains(NEEDED[kind], proof);
                int lacks = NEEDED[kind].length;
                r.item(0, 1, 1, 0, 0).is(1);
                r.claim(1, kind, 0, 0).is(1);
                r.about(1, 3).is(lacks);
                r.proof(1, proof).is(needs ? lacks - 1 : STATE);
                r.about(1, 3).is(needs ? lacks - 1 : lacks);
                r.proof(1, proof).is(STATE);
                r.about(1, 3).is(needs ? lacks - 1 : lacks);
            }
        }
    }

    private static boolean contains(int[] numbers, int number) {
        return Arrays.stream(numbers).anyMatch(one -> one == number);
    }

    private static void termsSearches() {
        Run r = run("Terms: searches are numbered 1, 2, .. (100 at most), of all claims together");
        r.item(0, 1, 1, 0, 0).is(1);
        r.item(0, 1, 1, 0, 0).is(2);
        r.claim(1, 0, 0, 0).is(1);
        r.claim(2, 0, 0, 0).is(2);
        r.answer(1, true).is(UNKNOWN);
        for (int number = 1; number <= 100; number++) {
            r.search(number % 2 + 1, number % 50, 0).is(number);
        }
        r.search(1, 0, 0).is(ROOM);
        r.search(2, 0, 0).is(ROOM);
        r.about(1, 4).is(50);
        r.about(2, 4).is(50);
        r.answer(101, true).is(UNKNOWN);
        r.answer(100, true).is(1);
        r.answer(1, false).is(1);
        r.search(1, 0, 0).is(ROOM);
        r.tick(1).is(98);
        r.search(1, 0, 1).is(ROOM);

        r = run("Terms: searches are of claims of kind 0");
        r.item(0, 1, 1, 0, 0).is(1);
        for (int kind = 0; kind < 4; kind++) {
            r.claim(1, kind, 0, 0).is(kind + 1);
        }
        for (int kind = 1; kind < 4; kind++) {
            r.search(kind + 1, 0, 0).is(STATE);
        }
        r.search(1, 0, 0).is(1);

        r = run("Terms: a search is unanswered, or answered: whole there, or not");
        r.lostItem(5);
        r.claim(1, 0, 0, 0).is(1);
        r.proof(1, 0).is(0);
        r.search(1, 0, 0).is(1);
        r.search(1, 0, 0).is(2);
        r.about(1, 4).is(2);
        r.answer(2, true).is(1);
        r.about(1, 4).is(1);
        r.answer(2, true).is(STATE);
        r.about(1, 4).is(1);
        r.answer(1, false).is(1);
        r.about(1, 4).is(0);
        r.decide(1, 0).is(2);
    }

    private static void termsClock() {
        Run r = run("Terms: the clock is a day, 0 at first");
        r.item(0, 1, 1, 0, 0).is(1);
        r.claim(1, 0, 0, 0).is(1);
        r.search(1, 0, -1).is(OUTSIDE);
        r.search(1, 0, 0).is(1);
        r.tick(-1).is(OUTSIDE);
        r.tick(0).is(0);

        r = run("Terms: unanswered searches that are due before the clock are lost there");
        r.item(0, 1, 1, 0, 0).is(1);
        r.item(0, 1, 1, 0, 0).is(2);
        r.claim(1, 0, 0, 0).is(1);
        r.claim(2, 0, 0, 0).is(2);
        for (int due = 0; due <= 4; due++) {
            r.search(due % 2 + 1, 0, due).is(due + 1);
        }
        r.answer(2, true).is(1);
        r.tick(0).is(0);
        r.tick(3).is(2);
        r.about(1, 4).is(1);
        r.about(2, 4).is(1);
        r.tick(3).is(0);
        r.answer(1, true).is(STATE);
        r.answer(3, true).is(STATE);
        r.answer(4, true).is(1);
        r.tick(4).is(0);
        r.tick(5).is(1);
        r.answer(5, true).is(STATE);

        r = run("Terms: lost there is as if not whole");
        r.lostItem(5);
        r.claim(1, 0, 0, 0).is(1);
        r.proof(1, 0).is(0);
        r.search(1, 0, 0).is(1);
        r.tick(1).is(1);
        r.decide(1, 0).is(1);

        r = run("Terms: lost there beside one that found it whole");
        r.lostItem(5);
        r.claim(1, 0, 0, 0).is(1);
        r.proof(1, 0).is(0);
        r.search(1, 0, 1).is(1);
        r.search(1, 0, 0).is(2);
        r.answer(1, true).is(1);
        r.tick(1).is(1);
        r.decide(1, 0).is(2);
    }

    private static void termsSum() {
        long[][] rows = {
            // value, insured, the row's most, and the base
            {100, 99, 5, 99}, {100, 100, 5, 100}, {100, 101, 5, 100}, {100, 1, 5, 1}, {1, 100, 0, 1}, {0, 100, 5, 0},
            {100, 50, 1000, 50}, {100, 0, 99, 99}, {100, 0, 100, 100}, {100, 0, 101, 100}, {100, 0, 0, 0}, {0, 0, 5, 0},
            {1, 0, 5, 1}, {100, 0, 1, 1}, {MOST_CENTS, 0, MOST_CENTS, MOST_CENTS}, {MOST_CENTS, MOST_CENTS, 0, MOST_CENTS},
            {MOST_CENTS, 0, MOST_CENTS - 1, MOST_CENTS - 1}, {MOST_CENTS - 1, MOST_CENTS, 0, MOST_CENTS - 1},
        };
        long[] parts = {1, 10, 2, 1};
        for (long[] row : rows) {
            Run r = run("Terms: the base of value " + row[0] + ", insured " + row[1] + ", most " + row[2]);
            r.item(3, row[0], row[1], 0, 0).is(1);
            for (int kind = 0; kind < 4; kind++) {
                r.table(3, kind, row[2], 0).is(1);
                r.claim(1, kind, 0, 0).is(kind + 1);
                r.sum(kind + 1).is(row[3] / parts[kind]);
            }
        }

        for (int base = 0; base <= 21; base++) {
            Run r = run("Terms: of 0 and 3 the base, of 2 half of it, of 1 a tenth (cut): base " + base);
            r.item(0, base, 100, 0, 0).is(1);
            for (int kind = 0; kind < 4; kind++) {
                r.claim(1, kind, 0, 0).is(kind + 1);
            }
            r.sum(1).is(base);
            r.sum(2).is(base < 10 ? 0 : base < 20 ? 1 : 2);
            r.sum(3).is(base % 2 == 0 ? base / 2 : (base - 1) / 2);
            r.sum(4).is(base);
        }
    }

    private static void termsDeciding() {
        for (int person = 0; person < 10; person++) {
            Run r = run("Terms: the limit of person " + person + " is 0 at first");
            r.item(0, 1, 1, 0, 0).is(1);
            r.item(0, 0, 1, 0, 0).is(2);
            r.claim(1, 3, 0, 0).is(1);
            r.claim(2, 3, 0, 0).is(2);
            r.proofs(1, 3).proofs(2, 3);
            r.decide(1, person).is(LIMIT);
            r.decide(2, person).is(1);
        }

        for (int kind = 0; kind < 4; kind++) {
            for (int left : NEEDED[kind]) {
                Run r = run("Terms: the claim must have all proofs: kind " + kind + " without " + left);
                r.lostItem(20);
                r.claim(1, kind, 0, 0).is(1);
                if (kind == 0) {
                    r.search(1, 0, 0).is(1);
                    r.answer(1, false).is(1);
                }
                for (int proof : NEEDED[kind]) {
                    if (proof != left) {
                        r.decide(1, 0).is(STATE);
                        r.proof(1, proof);
                    }
                }
                r.decide(1, 0).is(STATE);
                r.proof(1, left).is(0);
                r.decide(1, 0).is(1);
            }
        }

        Run r = run("Terms: the claim must have, of kind 0, a search, and none that is unanswered");
        r.lostItem(5);
        r.claim(1, 0, 0, 0).is(1);
        r.proof(1, 0).is(0);
        r.decide(1, 0).is(STATE);
        r.search(1, 0, 0).is(1);
        r.decide(1, 0).is(STATE);
        r.search(1, 1, 0).is(2);
        r.answer(2, false).is(1);
        r.decide(1, 0).is(STATE);
        r.answer(1, false).is(1);
        r.search(1, 2, 0).is(3);
        r.decide(1, 0).is(STATE);
        r.answer(3, false).is(1);
        r.decide(1, 0).is(1);

        r = run("Terms: another claim's searches do not make it ready, nor keep it from being decided");
        r.lostItem(5);
        r.item(0, 5, 0, 0, 0).is(2);
        r.claim(1, 0, 0, 0).is(1);
        r.claim(2, 0, 0, 0).is(2);
        r.proof(1, 0).is(0);
        r.proof(2, 0).is(0);
        r.search(1, 0, 0).is(1);
        r.answer(1, true).is(1);
        r.decide(2, 0).is(STATE);
        r.search(2, 0, 0).is(2);
        r.decide(1, 0).is(2);
        r.answer(2, false).is(1);
        r.decide(2, 0).is(1);

        for (int whole = 1; whole <= 3; whole++) {
            r = run("Terms: if one of its searches found the item whole, it is refused: search " + whole + " of 3");
            r.lostItem(5);
            r.claim(1, 0, 0, 0).is(1);
            r.proof(1, 0).is(0);
            for (int number = 1; number <= 3; number++) {
                r.search(1, 0, 0).is(number);
                r.answer(number, number == whole).is(1);
            }
            r.decide(1, 0).is(2);
            r.about(1, 0).is(2);
            r.all(0).is(0);
            r.paid(1, 0).is(0);
        }

        r = run("Terms: it is refused whatever the person's limit");
        r.lostItem(5);
        r.limit(7, 4).is(1);
        r.ready(1, true).is(1);
        r.decide(1, 7).is(2);

        for (long limit : new long[] {0, 1, 299, 300, 301, MOST_CENTS}) {
            r = run("Terms: if the sum is above the person's limit, that is refused: 300 by " + limit);
            r.lostItem(300);
            r.limit(3, limit).is(1);
            r.ready(1, false).is(1);
            r.decide(1, 3).is(limit < 300 ? LIMIT : 1);
            r.about(1, 0).is(limit < 300 ? 0 : 1);
            r.all(0).is(limit < 300 ? 0 : 300);
        }

        r = run("Terms: the largest sum by the largest limit, and by one cent less");
        r.item(0, MOST_CENTS, MOST_CENTS, 0, 0).is(1);
        r.limit(3, MOST_CENTS - 1).is(1);
        r.limit(4, MOST_CENTS).is(1);
        r.ready(1, false).is(1);
        r.decide(1, 3).is(LIMIT);
        r.decide(1, 4).is(1);
        r.sum(1).is(MOST_CENTS);
        r.all(0).is(MOST_CENTS);

        r = run("Terms: it is paid with its sum as it is then");
        r.lostItem(300);
        r.ready(1, false).is(1);
        r.table(0, 0, 200, 0).is(1);
        r.limit(3, 200).is(1);
        r.decide(1, 3).is(1);
        r.table(0, 0, 300, 0).is(1);
        r.sum(1).is(200);
        r.all(0).is(200);
    }

    private static void termsAppeal() {
        Run r = run("Terms: a refused claim can be appealed once: it is open again");
        r.lostItem(5);
        r.ready(1, true).is(1);
        r.appeal(1).is(STATE);
        r.decide(1, 0).is(2);
        r.appeal(1).is(1);
        r.about(1, 0).is(0);
        r.appeal(1).is(STATE);
        r.search(1, 0, 0).is(2);
        r.answer(2, true).is(1);
        r.decide(1, 0).is(2);
        r.appeal(1).is(STATE);
        r.about(1, 0).is(2);

        r = run("Terms: behind the appeal its searches do not count any more, its proofs do");
        r.lostItem(5);
        r.ready(1, true).is(1);
        r.search(1, 1, 0).is(2);
        r.answer(2, false).is(1);
        r.decide(1, 0).is(2);
        r.appeal(1).is(1);
        r.about(1, 3).is(0);
        r.about(1, 4).is(0);
        r.proof(1, 0).is(STATE);
        r.decide(1, 0).is(STATE);
        r.answer(1, false).is(STATE);
        r.answer(2, false).is(STATE);
        r.search(1, 2, 0).is(3);
        r.about(1, 4).is(1);
        r.decide(1, 0).is(STATE);
        r.answer(3, false).is(1);
        r.decide(1, 0).is(1);
        r.sum(1).is(5);
    }

    private static void termsShares() {
        Run r = run("Terms: without any post nobody shares");
        r.lostItem(8).pay(1);
        r.shares(1, 0, 0, 0, 0, 0, 0);

        r = run("Terms: all the posts share, if it was whole at none");
        r.lostItem(9).posts(1, 2, 4, 5).pay(1);
        r.shares(1, 0, 0, 3, 0, 3, 3);

        for (int last = 0; last < 6; last++) {
            r = run("Terms: the posts from the last one on where the item was whole: that is post " + last);
            r.lostItem(60);
            for (int post = 0; post < 6; post++) {
                r.pass(1, post, post <= last && (post == last || post % 2 == 0)).is(post + 1);
            }
            r.pay(1);
            for (int post = 0; post < 6; post++) {
                r.share(1, post).is(post < last ? 0 : 60 / (6 - last));
            }
        }

        for (int sharers = 1; sharers <= 6; sharers++) {
            for (int sum : new int[] {0, 1, sharers - 1, sharers, sharers + 1, 7 * sharers - 1, 7 * sharers + 1}) {
                r = run("Terms: each has the sum by their number (cut), the first ones one cent more: " + sum + " by " + sharers);
                r.lostItem(sum);
                for (int post = 0; post < sharers; post++) {
                    r.pass(1, 5 - post, post == 0).is(post + 1);
                }
                r.pay(1);
                for (int post = 0; post < 6; post++) {
                    r.share(1, 5 - post).is(post >= sharers ? 0 : sum / sharers + (post < sum % sharers ? 1 : 0));
                }
            }
        }

        r = run("Terms: a post that comes twice has both, and both cents that are left over");
        r.lostItem(11).posts(1, 3, 3, 1).pay(1);
        r.shares(1, 0, 3, 0, 8, 0, 0);

        r = run("Terms: a post that comes twice has only those parts from where the item was whole on");
        r.lostItem(10);
        r.pass(1, 3, false).is(1);
        r.pass(1, 1, true).is(2);
        r.pass(1, 3, false).is(3);
        r.pay(1);
        r.shares(1, 0, 5, 0, 5, 0, 0);

        for (int left = 0; left < 8; left++) {
            r = run("Terms: eight posts share, " + left + " cents are left over");
            r.lostItem(80 + left).posts(1, 0, 1, 2, 3, 4, 5, 0, 1).pay(1);
            long[] parts = new long[6];
            for (int i = 0; i < 8; i++) {
                parts[i % 6] += i < left ? 11 : 10;
            }
            r.shares(1, parts);
        }

        r = run("Terms: the largest sum among seven");
        r.item(0, MOST_CENTS, MOST_CENTS, 0, 0).is(1);
        r.limit(0, MOST_CENTS).is(1);
        r.posts(1, 0, 1, 2, 3, 4, 5, 0).pay(1);
        r.shares(1, 1428572 + 1428571, 1428572, 1428572, 1428571, 1428571, 1428571);
    }

    private static void termsFound() {
        Run r = run("Terms: an item with a paid claim of kind 0 is found, once");
        r.lostItem(5);
        r.found(1).is(STATE);
        r.ready(1, false).is(1);
        r.found(1).is(STATE);
        r.decide(1, 0).is(1);
        r.found(1).is(1);
        r.found(1).is(STATE);
        r.back(1, false).is(1);
        r.found(1).is(STATE);

        for (int kind = 1; kind < 4; kind++) {
            r = run("Terms: an item with a paid claim of kind " + kind + " alone is not found");
            r.lostItem(20);
            r.claim(1, kind, 0, 0).is(1);
            r.proofs(1, kind).decide(1, 0).is(1);
            r.found(1).is(STATE);
            r.back(1, true).is(STATE);
        }

        r = run("Terms: then that claim may be asked back: its sum is recovered");
        r.lostItem(5).pay(1);
        r.back(1, true).is(STATE);
        r.found(1).is(1);
        r.all(1).is(0);
        r.back(1, true).is(1);
        r.all(1).is(5);

        r = run("Terms: or it is kept");
        r.lostItem(5).pay(1);
        r.found(1).is(1);
        r.back(1, false).is(1);
        r.all(1).is(0);
    }

    private static void termsLetters() {
        Run r = run("Terms: of a claim: letter 1 it came");
        r.item(0, 1, 1, 0, 0).is(1);
        r.letter(0, 0).is(-1);
        r.claim(1, 2, 0, 0).is(1);
        r.letters(1, 1);

        r = run("Terms: letter 2 each time that a proof comes and some lack still, not with the last one");
        r.item(0, 1, 1, 0, 0).is(1);
        r.claim(1, 3, 0, 0).is(1);
        r.claim(1, 0, 0, 0).is(2);
        r.proof(1, 2).is(2);
        r.proof(1, 0).is(1);
        r.proof(1, 3).is(0);
        r.proof(2, 0).is(0);
        r.letters(1, 1, 2, 1, 1, 2, 1, 2);

        r = run("Terms: letter 3 it is paid");
        r.lostItem(5).pay(1);
        r.letters(1, 1, 1, 3);

        r = run("Terms: letters 4 it is refused, 6 it is appealed, and 4 again");
        r.lostItem(5);
        r.ready(1, true).is(1);
        r.decide(1, 0).is(2);
        r.appeal(1).is(1);
        r.search(1, 0, 0).is(2);
        r.answer(2, true).is(1);
        r.decide(1, 0).is(2);
        r.letters(1, 1, 1, 4, 1, 6, 1, 4);

        r = run("Terms: letter 5 it is asked back");
        r.lostItem(5).pay(1);
        r.found(1).is(1);
        r.letters(1, 1, 1, 3);
        r.back(1, true).is(1);
        r.letters(1, 1, 1, 3, 1, 5);

        r = run("Terms: a sum that is kept is not asked back, by no letter");
        r.lostItem(5).pay(1);
        r.found(1).is(1);
        r.back(1, false).is(1);
        r.letters(1, 1, 1, 3);

        for (int letters = 199; letters <= 202; letters++) {
            r = run("Terms: the first 200 letters are kept: of " + letters);
            r.limit(0, 1).is(1);
            for (int number = 1; number <= 60; number++) {
                r.item(0, 1, 1, 0, 0).is(number);
                r.claim(number, 3, 0, 0).is(number);
                r.proofs(number, 3);
            }
            r.all(3).is(180);
            for (int number = 1; number <= letters - 180; number++) {
                r.decide(number, 0).is(1);
            }
            r.all(3).is(letters);
            r.letter(0, 0).is(1);
            r.letter(0, 1).is(1);
            r.letter(179, 0).is(60);
            r.letter(179, 1).is(2);
            r.letter(180, 0).is(1);
            r.letter(180, 1).is(3);
            r.letter(198, 0).is(19);
            r.letter(198, 1).is(3);
            for (int i = 199; i <= 202; i++) {
                r.letter(i, 0).is(i == 199 && letters >= 200 ? 20 : -1);
                r.letter(i, 1).is(i == 199 && letters >= 200 ? 3 : -1);
            }
        }
    }

    // ---- REFUSALS: their order; that they change nothing is looked at behind all runs

    private static void refusals() {
        Run r = run("Refusals: of pass UNKNOWN, OUTSIDE, ROOM");
        r.item(0, 1, 1, 0, 0).is(1);
        r.posts(1, 0, 0, 0, 0, 0, 0, 0, 0);
        r.pass(2, 6, true).is(UNKNOWN);
        r.pass(1, 6, true).is(OUTSIDE);
        r.pass(1, 5, true).is(ROOM);

        r = run("Refusals: of item OUTSIDE, ROOM");
        for (int number = 1; number <= 100; number++) {
            r.item(0, 1, 1, 0, 0).is(number);
        }
        r.item(4, 1, 1, 0, 0).is(OUTSIDE);
        r.item(0, -1, 1, 0, 0).is(OUTSIDE);
        r.item(0, 1, -1, 0, 0).is(OUTSIDE);
        r.item(0, 1, 1, -1, 0).is(OUTSIDE);
        r.item(0, 1, 1, 0, -1).is(OUTSIDE);
        r.item(0, 1, 1, 0, 0).is(ROOM);

        r = run("Refusals: of claim UNKNOWN, OUTSIDE, WHO, TIME, STATE");
        r.item(0, 1, 1, 0, 0).is(1);
        r.claim(1, 0, 0, 0).is(1);
        for (int[] far : new int[][] {{4, 0, 0}, {0, 3, 0}, {0, 0, -1}, {0, 1, 0}, {0, 0, 1}, {0, 0, 0}}) {
            r.claim(2, far[0], far[1], far[2]).is(UNKNOWN);
        }
        r.claim(1, 4, 1, 1).is(OUTSIDE);
        r.claim(1, 0, 3, 1).is(OUTSIDE);
        r.claim(1, 0, 1, 200001).is(OUTSIDE);
        r.claim(1, 0, 0, 200001).is(OUTSIDE);
        r.claim(1, 0, 1, 1).is(WHO);
        r.claim(1, 0, 1, 0).is(WHO);
        r.claim(1, 0, 0, 1).is(TIME);
        r.claim(1, 0, 0, 0).is(STATE);

        r = run("Refusals: of claim each one before ROOM");
        for (int item = 1; item <= 16; item++) {
            r.item(0, 1, 1, 0, 0).is(item);
        }
        for (int number = 1; number <= 60; number++) {
            r.claim((number + 3) / 4, (number - 1) % 4, 0, 0).is(number);
        }
        r.claim(17, 0, 0, 0).is(UNKNOWN);
        r.claim(16, 4, 0, 0).is(OUTSIDE);
        r.claim(16, 0, 3, 0).is(OUTSIDE);
        r.claim(16, 0, 0, -1).is(OUTSIDE);
        r.claim(16, 0, 1, 0).is(WHO);
        r.claim(16, 0, 0, 1).is(TIME);
        r.claim(15, 0, 0, 0).is(STATE);
        r.claim(16, 0, 0, 0).is(ROOM);

        r = run("Refusals: of proof UNKNOWN, OUTSIDE, STATE");
        r.lostItem(5).pay(1);
        r.proof(2, 4).is(UNKNOWN);
        r.proof(2, 0).is(UNKNOWN);
        r.proof(1, 4).is(OUTSIDE);
        r.proof(1, 0).is(STATE);

        r = run("Refusals: of search UNKNOWN, OUTSIDE, STATE, ROOM");
        r.item(0, 1, 1, 0, 0).is(1);
        r.claim(1, 0, 0, 0).is(1);
        r.claim(1, 1, 0, 0).is(2);
        r.search(2, 50, 0).is(OUTSIDE);
        r.search(2, 0, 200001).is(OUTSIDE);
        r.search(2, 0, 0).is(STATE);
        for (int number = 1; number <= 100; number++) {
            r.search(1, 0, 0).is(number);
        }
        r.search(3, 50, -1).is(UNKNOWN);
        r.search(3, 0, 0).is(UNKNOWN);
        r.search(1, 50, 0).is(OUTSIDE);
        r.search(1, 0, -1).is(OUTSIDE);
        r.search(2, 50, 0).is(OUTSIDE);
        r.search(2, 0, 0).is(STATE);
        r.search(1, 0, 0).is(ROOM);

        r = run("Refusals: of decide UNKNOWN, OUTSIDE, STATE, LIMIT");
        r.item(0, 1, 1, 0, 0).is(1);
        r.claim(1, 0, 0, 0).is(1);
        r.decide(2, 10).is(UNKNOWN);
        r.decide(2, 0).is(UNKNOWN);
        r.decide(1, 10).is(OUTSIDE);
        r.decide(1, 0).is(STATE);
        r.proof(1, 0).is(0);
        r.decide(1, 0).is(STATE);
        r.search(1, 0, 0).is(1);
        r.decide(1, 0).is(STATE);
        r.answer(1, false).is(1);
        r.decide(1, 10).is(OUTSIDE);
        r.decide(1, 0).is(LIMIT);

        r = run("Refusals: of share and about UNKNOWN, OUTSIDE");
        r.item(0, 1, 1, 0, 0).is(1);
        r.claim(1, 0, 0, 0).is(1);
        r.share(2, 6).is(UNKNOWN);
        r.share(1, 6).is(OUTSIDE);
        r.about(2, 6).is(UNKNOWN);
        r.about(1, 6).is(OUTSIDE);
    }

    // ---- the promises

    private static void promises() {
        newObject();
        item();
        pass();
        table();
        claim();
        proof();
        search();
        answer();
        tick();
        sum();
        limit();
        decide();
        share();
        found();
        back();
        appeal();
        paid();
        about();
        letter();
        all();
    }

    private static void newObject() {
        Run r = run("Promise 1: no items");
        r.pass(1, 0, true).is(UNKNOWN);
        r.claim(1, 0, 0, 0).is(UNKNOWN);
        r.found(1).is(UNKNOWN);
        r.paid(1, 0).is(0);
        r.item(0, 0, 0, 0, 0).is(1);

        r = run("Promise 1: no claims, no searches, no letters, nothing paid");
        r.proof(1, 0).is(UNKNOWN);
        r.search(1, 0, 0).is(UNKNOWN);
        r.answer(1, false).is(UNKNOWN);
        r.sum(1).is(UNKNOWN);
        r.decide(1, 0).is(UNKNOWN);
        r.share(1, 0).is(UNKNOWN);
        r.back(1, true).is(UNKNOWN);
        r.appeal(1).is(UNKNOWN);
        r.about(1, 0).is(UNKNOWN);
        r.letter(0, 0).is(-1);
        r.letter(0, 1).is(-1);
        for (int what = 0; what < 4; what++) {
            r.all(what).is(0);
        }

        r = run("Promise 1: the clock is 0");
        r.tick(-1).is(OUTSIDE);
        r.tick(0).is(0);
        r.tick(1).is(0);
        r.tick(0).is(OUTSIDE);
    }

    private static void item() {
        Run r = run("Promise 2: an item: its number, also behind refused ones");
        r.item(0, 1, 1, 1, 1).is(1);
        r.item(4, 1, 1, 1, 1).is(OUTSIDE);
        r.item(0, 1, 1, 1, 1).is(2);

        r = run("Promise 2: OUTSIDE (service)");
        for (int service = 0; service < 4; service++) {
            r.item(service, 9, 0, 0, 0).is(service + 1);
            r.table(service, 3, service + 2, 0).is(1);
            r.claim(service + 1, 3, 0, 0).is(service + 1);
            r.sum(service + 1).is(service + 2);
        }
        for (int service : outsideOf(0, 3)) {
            r.item(service, 9, 0, 0, 0).is(OUTSIDE);
        }

        r = run("Promise 2: OUTSIDE (value 0 .. 10000000)");
        for (long value : new long[] {0, 1, MOST_CENTS - 1, MOST_CENTS}) {
            int number = r.item(0, value, MOST_CENTS, 0, 0).answer();
            r.claim(number, 0, 0, 0).is(number);
            r.sum(number).is(value);
        }
        for (long value : NO_CENTS) {
            r.item(0, value, 0, 0, 0).is(OUTSIDE);
        }

        r = run("Promise 2: OUTSIDE (insured 0 .. 10000000)");
        r.table(0, 0, 7, 0).is(1);
        for (long insured : new long[] {0, 1, MOST_CENTS - 1, MOST_CENTS}) {
            int number = r.item(0, MOST_CENTS, insured, 0, 0).answer();
            r.claim(number, 0, 0, 0).is(number);
            r.sum(number).is(insured == 0 ? 7 : insured);
        }
        for (long insured : NO_CENTS) {
            r.item(0, 0, insured, 0, 0).is(OUTSIDE);
        }

        r = run("Promise 2: OUTSIDE (day 0 .. 100000)");
        for (int day : new int[] {0, 1, 99999, 100000}) {
            int number = r.item(0, 1, 1, day, 0).answer();
            r.claim(number, 0, 0, day + 1).is(TIME);
            r.claim(number, 0, 0, day).is(number);
        }
        for (int day : outsideOf(0, 100000)) {
            r.item(0, 1, 1, day, 0).is(OUTSIDE);
        }

        r = run("Promise 2: OUTSIDE (sender)");
        for (int sender = 0; sender < 20; sender++) {
            r.item(0, 1, 1, 0, sender).is(sender + 1);
            r.claim(sender + 1, 0, 0, 0).is(2 * sender + 1);
            r.claim(sender + 1, 1, 0, 0).is(2 * sender + 2);
            r.about(2 * sender + 1, 5).is(0);
            r.about(2 * sender + 2, 5).is(1);
        }
        for (int sender : outsideOf(0, 19)) {
            r.item(0, 1, 1, 0, sender).is(OUTSIDE);
        }

        r = run("Promise 2: all of them the least, all of them the most");
        r.item(0, 0, 0, 0, 0).is(1);
        r.item(3, MOST_CENTS, MOST_CENTS, 100000, 19).is(2);

        r = run("Promise 2: ROOM");
        for (int number = 1; number <= 100; number++) {
            r.item(number % 4, 1, 1, 1, number % 20).is(number);
        }
        r.item(0, 0, 0, 0, 0).is(ROOM);
        r.item(3, MOST_CENTS, MOST_CENTS, 100000, 19).is(ROOM);
    }

    private static void pass() {
        Run r = run("Promise 3: an item passes a post: how many it passed");
        r.item(0, 1, 1, 0, 0).is(1);
        r.item(0, 1, 1, 0, 0).is(2);
        r.pass(1, 4, true).is(1);
        r.pass(1, 6, true).is(OUTSIDE);
        r.pass(2, 4, true).is(1);
        r.pass(1, 4, false).is(2);

        r = run("Promise 3: UNKNOWN");
        r.item(0, 1, 1, 0, 0).is(1);
        r.item(0, 1, 1, 0, 0).is(2);
        r.pass(3, 0, true).is(UNKNOWN);
        for (int item : NO_NUMBERS) {
            r.pass(item, 0, true).is(UNKNOWN);
        }

        r = run("Promise 3: OUTSIDE (post)");
        r.lostItem(12);
        for (int post = 0; post < 6; post++) {
            r.pass(1, post, false).is(post + 1);
        }
        for (int post : outsideOf(0, 5)) {
            r.pass(1, post, true).is(OUTSIDE);
        }
        r.pay(1);
        r.shares(1, 2, 2, 2, 2, 2, 2);

        r = run("Promise 3: ROOM (8)");
        r.lostItem(16).pay(1);
        r.posts(1, 5, 4, 3, 2, 1, 0, 5);
        r.pass(1, 4, false).is(8);
        r.pass(1, 3, true).is(ROOM);
        r.pass(1, 3, false).is(ROOM);
        r.shares(1, 2, 2, 2, 2, 4, 4);
    }

    private static void table() {
        Run r = run("Promise 4: OUTSIDE (service)");
        for (int service = 0; service < 4; service++) {
            r.table(service, 0, 5, 5).is(1);
        }
        for (int service : outsideOf(0, 3)) {
            r.table(service, 0, 7, 7).is(OUTSIDE);
        }

        r = run("Promise 4: OUTSIDE (kind)");
        for (int kind = 0; kind < 4; kind++) {
            r.table(1, kind, 5, 5).is(1);
        }
        for (int kind : outsideOf(0, 3)) {
            r.table(1, kind, 7, 7).is(OUTSIDE);
        }

        r = run("Promise 4: OUTSIDE (most 0 .. 10000000)");
        r.item(2, MOST_CENTS, 0, 0, 0).is(1);
        r.claim(1, 3, 0, 0).is(1);
        for (long most : new long[] {1, MOST_CENTS - 1, MOST_CENTS, 0}) {
            r.table(2, 3, most, 0).is(1);
            r.sum(1).is(most);
        }
        r.table(2, 3, 77, 0).is(1);
        for (long most : NO_CENTS) {
            r.table(2, 3, most, 3).is(OUTSIDE);
            r.sum(1).is(77);
        }
        r.item(2, 1, 0, 0, 0).is(2);
        r.claim(2, 3, 0, 1).is(TIME);

        r = run("Promise 4: OUTSIDE (days 0 .. 10000)");
        for (int days : new int[] {1, 9999, 10000, 0}) {
            int number = r.item(2, 1, 0, 100, 0).answer();
            r.table(2, 3, 7, days).is(1);
            r.claim(number, 3, 0, 101 + days).is(TIME);
            r.claim(number, 3, 0, 100 + days).is(number);
        }
        r.item(2, 1, 0, 100, 0).is(5);
        r.table(2, 3, 7, 3).is(1);
        for (int days : outsideOf(0, 10000)) {
            r.table(2, 3, 9, days).is(OUTSIDE);
        }
        r.claim(5, 3, 0, 104).is(TIME);
        r.claim(5, 3, 0, 103).is(5);

        r = run("Promise 4: all of them the least, all of them the most");
        r.table(0, 0, 0, 0).is(1);
        r.table(3, 3, MOST_CENTS, 10000).is(1);
    }

    private static void claim() {
        Run r = run("Promise 5: a claim: its number, also behind refused ones");
        r.item(0, 1, 1, 0, 0).is(1);
        r.claim(1, 0, 0, 0).is(1);
        r.claim(1, 4, 0, 0).is(OUTSIDE);
        r.claim(1, 1, 2, 0).is(WHO);
        r.claim(1, 1, 0, 1).is(TIME);
        r.claim(1, 0, 0, 0).is(STATE);
        r.claim(1, 1, 0, 0).is(2);
        r.all(3).is(2);

        r = run("Promise 5: UNKNOWN (item)");
        r.item(0, 1, 1, 0, 0).is(1);
        r.claim(2, 0, 0, 0).is(UNKNOWN);
        for (int item : NO_NUMBERS) {
            r.claim(item, 0, 0, 0).is(UNKNOWN);
        }
        r.claim(1, 0, 0, 0).is(1);

        r = run("Promise 5: OUTSIDE (kind)");
        r.item(0, 1, 1, 0, 0).is(1);
        for (int kind : outsideOf(0, 3)) {
            r.claim(1, kind, 0, 0).is(OUTSIDE);
        }
        for (int kind = 0; kind < 4; kind++) {
            r.claim(1, kind, 0, 0).is(kind + 1);
            r.about(kind + 1, 2).is(kind);
        }

        r = run("Promise 5: OUTSIDE (who 0 .. 2)");
        r.item(0, 1, 1, 0, 0).is(1);
        for (int who : outsideOf(0, 2)) {
            r.claim(1, 1, who, 0).is(OUTSIDE);
        }
        r.claim(1, 1, 2, 0).is(WHO);
        r.claim(1, 1, 1, 0).is(1);
        r.claim(1, 2, 0, 0).is(2);

        r = run("Promise 5: OUTSIDE (day 0 .. 200000)");
        r.item(0, 1, 1, 100000, 0).is(1);
        r.table(0, 0, 0, 10000).is(1);
        for (int day : outsideOf(0, 200000)) {
            r.claim(1, 0, 0, day).is(OUTSIDE);
        }
        r.claim(1, 0, 0, 200000).is(TIME);
        r.claim(1, 0, 0, 199999).is(TIME);
        r.claim(1, 0, 0, 0).is(1);

        r = run("Promise 5: WHO");
        r.item(0, 1, 1, 0, 0).is(1);
        r.claim(1, 0, 1, 0).is(WHO);
        r.claim(1, 3, 1, 0).is(WHO);
        for (int kind = 0; kind < 4; kind++) {
            r.claim(1, kind, 2, 0).is(WHO);
        }
        r.claim(1, 1, 1, 0).is(1);
        r.claim(1, 2, 1, 0).is(2);
        r.claim(1, 0, 0, 0).is(3);
        r.claim(1, 3, 0, 0).is(4);

        r = run("Promise 5: TIME, at the largest day and the most days of all");
        r.item(0, 1, 1, 100000, 0).is(1);
        r.table(0, 0, 0, 10000).is(1);
        r.claim(1, 0, 0, 110001).is(TIME);
        r.claim(1, 0, 0, 110000).is(1);

        r = run("Promise 5: TIME counts from the item's day, not from the clock");
        r.item(0, 1, 1, 5, 0).is(1);
        r.tick(6).is(0);
        r.claim(1, 0, 0, 6).is(TIME);
        r.claim(1, 0, 0, 5).is(1);

        r = run("Promise 5: TIME is behind its time, not before the item's day");
        r.item(0, 1, 1, 5, 0).is(1);
        r.claim(1, 0, 0, 4).is(1);
        r.claim(1, 1, 0, 0).is(2);

        r = run("Promise 5: STATE (there is one), open, paid, or open again");
        r.lostItem(5);
        r.ready(1, true).is(1);
        r.claim(1, 0, 0, 0).is(STATE);
        r.decide(1, 0).is(2);
        r.appeal(1).is(1);
        r.claim(1, 0, 0, 0).is(STATE);
        r.search(1, 0, 0).is(2);
        r.answer(2, false).is(1);
        r.decide(1, 0).is(1);
        r.claim(1, 0, 0, 0).is(STATE);
        r.found(1).is(1);
        r.claim(1, 0, 0, 0).is(STATE);
        r.back(1, true).is(1);
        r.claim(1, 0, 0, 0).is(STATE);

        r = run("Promise 5: ROOM");
        for (int number = 1; number <= 60; number++) {
            r.item(0, 1, 1, 0, 0).is(number);
            r.claim(number, 1, 1, 0).is(number);
        }
        r.claim(1, 0, 0, 0).is(ROOM);
        r.claim(60, 2, 1, 0).is(ROOM);
        r.all(3).is(60);
    }

    private static void proof() {
        for (int kind = 0; kind < 4; kind++) {
            Run r = run("Promise 6: a proof comes: how many it lacks still, of kind " + kind);
            int lacks = NEEDED[kind].length;
            r.item(0, 1, 1, 0, 0).is(1);
            r.claim(1, kind, 0, 0).is(1);
            for (int proof : NEEDED[kind]) {
                lacks--;
                r.proof(1, proof).is(lacks);
                r.about(1, 3).is(lacks);
            }
            for (int proof = 0; proof < 4; proof++) {
                r.proof(1, proof).is(STATE);
            }
            r.about(1, 3).is(0);
        }

        Run r = run("Promise 6: UNKNOWN");
        r.item(0, 1, 1, 0, 0).is(1);
        r.claim(1, 3, 0, 0).is(1);
        r.proof(2, 0).is(UNKNOWN);
        for (int claim : NO_NUMBERS) {
            r.proof(claim, 0).is(UNKNOWN);
        }
        r.about(1, 3).is(3);

        r = run("Promise 6: OUTSIDE (proof 0 .. 3)");
        r.item(0, 1, 1, 0, 0).is(1);
        r.claim(1, 3, 0, 0).is(1);
        for (int proof : outsideOf(0, 3)) {
            r.proof(1, proof).is(OUTSIDE);
        }
        r.proof(1, 35).is(OUTSIDE);
        r.proof(1, 3).is(2);
        r.proof(1, 0).is(1);

        r = run("Promise 6: STATE (it is not open)");
        r.lostItem(20);
        r.ready(1, true).is(1);
        r.decide(1, 0).is(2);
        r.proof(1, 0).is(STATE);
        r.claim(1, 3, 0, 0).is(2);
        r.proofs(2, 3).decide(2, 0).is(1);
        for (int proof = 0; proof < 4; proof++) {
            r.proof(2, proof).is(STATE);
        }

        r = run("Promise 6: STATE (it does not need the proof, or has it): each claim its own");
        r.item(0, 1, 1, 0, 0).is(1);
        r.claim(1, 1, 0, 0).is(1);
        r.claim(1, 2, 0, 0).is(2);
        r.proof(1, 2).is(STATE);
        r.proof(2, 1).is(STATE);
        r.proof(1, 0).is(1);
        r.proof(1, 0).is(STATE);
        r.proof(2, 0).is(1);
        r.proof(2, 0).is(STATE);
    }

    private static void search() {
        Run r = run("Promise 7: a search more: its number, also behind refused ones");
        r.item(0, 1, 1, 0, 0).is(1);
        r.claim(1, 0, 0, 0).is(1);
        r.search(1, 0, 0).is(1);
        r.search(1, 50, 0).is(OUTSIDE);
        r.about(1, 4).is(1);
        r.search(1, 0, 0).is(2);
        r.about(1, 4).is(2);

        r = run("Promise 7: UNKNOWN");
        r.item(0, 1, 1, 0, 0).is(1);
        r.claim(1, 0, 0, 0).is(1);
        r.search(2, 0, 0).is(UNKNOWN);
        for (int claim : NO_NUMBERS) {
            r.search(claim, 0, 0).is(UNKNOWN);
        }

        r = run("Promise 7: OUTSIDE (place)");
        r.item(0, 1, 1, 0, 0).is(1);
        r.claim(1, 0, 0, 0).is(1);
        r.search(1, 0, 0).is(1);
        r.search(1, 49, 0).is(2);
        for (int place : outsideOf(0, 49)) {
            r.search(1, place, 0).is(OUTSIDE);
        }
        r.about(1, 4).is(2);

        r = run("Promise 7: OUTSIDE (due from the clock on to 200000)");
        r.item(0, 1, 1, 0, 0).is(1);
        r.claim(1, 0, 0, 0).is(1);
        for (int due : outsideOf(0, 200000)) {
            r.search(1, 0, due).is(OUTSIDE);
        }
        r.search(1, 0, 200000).is(1);
        r.search(1, 0, 0).is(2);
        r.tick(9).is(1);
        r.search(1, 0, 8).is(OUTSIDE);
        r.search(1, 0, 0).is(OUTSIDE);
        r.search(1, 0, 9).is(3);
        r.tick(10).is(1);
        r.tick(200000).is(0);
        r.search(1, 0, 199999).is(OUTSIDE);
        r.search(1, 0, 200001).is(OUTSIDE);
        r.search(1, 0, 200000).is(4);
        r.about(1, 4).is(2);

        r = run("Promise 7: STATE (not open)");
        r.lostItem(5);
        r.item(0, 5, 0, 0, 0).is(2);
        r.ready(1, true).is(1);
        r.decide(1, 0).is(2);
        r.search(1, 0, 0).is(STATE);
        r.pay(2);
        r.search(2, 0, 0).is(STATE);
        r.about(1, 4).is(0);
        r.about(2, 4).is(0);
        r.appeal(1).is(1);
        r.search(1, 0, 0).is(3);

        r = run("Promise 7: STATE (not of kind 0)");
        r.item(0, 1, 1, 0, 0).is(1);
        for (int kind = 1; kind < 4; kind++) {
            r.claim(1, kind, 0, 0).is(kind);
            r.search(kind, 0, 0).is(STATE);
            r.about(kind, 4).is(0);
        }

        r = run("Promise 7: ROOM");
        r.item(0, 1, 1, 0, 0).is(1);
        r.claim(1, 0, 0, 0).is(1);
        for (int number = 1; number <= 100; number++) {
            r.search(1, 49, 200000).is(number);
        }
        r.search(1, 0, 0).is(ROOM);
        r.search(1, 49, 200000).is(ROOM);
        r.about(1, 4).is(100);
    }

    private static void answer() {
        Run r = run("Promise 8: UNKNOWN");
        r.item(0, 1, 1, 0, 0).is(1);
        r.claim(1, 0, 0, 0).is(1);
        r.answer(1, true).is(UNKNOWN);
        r.search(1, 0, 0).is(1);
        r.answer(2, true).is(UNKNOWN);
        for (int search : NO_NUMBERS) {
            r.answer(search, true).is(UNKNOWN);
        }
        r.about(1, 4).is(1);
        r.answer(1, true).is(1);

        for (int first = 0; first < 2; first++) {
            for (int second = 0; second < 2; second++) {
                r = run("Promise 8: STATE (it is answered): " + first + ", then " + second);
                r.lostItem(5);
                r.claim(1, 0, 0, 0).is(1);
                r.proof(1, 0).is(0);
                r.search(1, 0, 0).is(1);
                r.answer(1, first == 1).is(1);
                r.answer(1, second == 1).is(STATE);
                r.decide(1, 0).is(first == 1 ? 2 : 1);
            }
        }

        for (int whole = 0; whole < 2; whole++) {
            r = run("Promise 8: STATE (lost there): " + whole);
            r.lostItem(5);
            r.claim(1, 0, 0, 0).is(1);
            r.proof(1, 0).is(0);
            r.search(1, 0, 3).is(1);
            r.tick(4).is(1);
            r.answer(1, whole == 1).is(STATE);
            r.about(1, 4).is(0);
            r.decide(1, 0).is(1);
        }

        r = run("Promise 8: due on the clock's day it is answered still");
        r.item(0, 1, 1, 0, 0).is(1);
        r.claim(1, 0, 0, 0).is(1);
        r.search(1, 0, 3).is(1);
        r.tick(3).is(0);
        r.answer(1, false).is(1);
        r.tick(4).is(0);
    }

    private static void tick() {
        Run r = run("Promise 9: the clock is set: how many searches are lost there by it");
        r.item(0, 1, 1, 0, 0).is(1);
        r.claim(1, 0, 0, 0).is(1);
        r.tick(0).is(0);
        for (int number = 1; number <= 6; number++) {
            r.search(1, 0, number / 2).is(number);
        }
        r.tick(1).is(1);
        r.tick(2).is(2);
        r.tick(2).is(0);
        r.tick(4).is(3);
        r.tick(200000).is(0);

        r = run("Promise 9: a hundred searches are lost at once");
        r.item(0, 1, 1, 0, 0).is(1);
        r.claim(1, 0, 0, 0).is(1);
        for (int number = 1; number <= 100; number++) {
            r.search(1, 0, 199999).is(number);
        }
        r.tick(199999).is(0);
        r.tick(200000).is(100);
        r.about(1, 4).is(0);

        r = run("Promise 9: OUTSIDE (below the clock)");
        r.tick(MIN).is(OUTSIDE);
        r.tick(-1).is(OUTSIDE);
        r.tick(0).is(0);
        r.tick(5).is(0);
        r.tick(4).is(OUTSIDE);
        r.tick(0).is(OUTSIDE);
        r.tick(-1).is(OUTSIDE);
        r.tick(5).is(0);
        r.tick(6).is(0);
        r.tick(5).is(OUTSIDE);

        r = run("Promise 9: OUTSIDE (above 200000)");
        r.item(0, 1, 1, 0, 0).is(1);
        r.claim(1, 0, 0, 0).is(1);
        r.search(1, 0, 0).is(1);
        r.tick(200001).is(OUTSIDE);
        r.tick(MAX).is(OUTSIDE);
        r.about(1, 4).is(1);
        r.tick(200000).is(1);
        r.tick(200001).is(OUTSIDE);
        r.tick(199999).is(OUTSIDE);
        r.tick(200000).is(0);
    }

    private static void sum() {
        Run r = run("Promise 10: UNKNOWN");
        r.sum(1).is(UNKNOWN);
        r.item(0, 9, 9, 0, 0).is(1);
        r.sum(1).is(UNKNOWN);
        r.claim(1, 0, 0, 0).is(1);
        r.sum(1).is(9);
        r.sum(2).is(UNKNOWN);
        for (int claim : NO_NUMBERS) {
            r.sum(claim).is(UNKNOWN);
        }

        r = run("Promise 10: the sum of a claim that is open or refused follows the table; of a paid one, what was paid");
        r.lostItem(300);
        r.ready(1, true).is(1);
        r.sum(1).is(300);
        r.table(0, 0, 200, 0).is(1);
        r.sum(1).is(200);
        r.decide(1, 0).is(2);
        r.table(0, 0, 100, 0).is(1);
        r.sum(1).is(100);
        r.pay(1);
        r.table(0, 0, 300, 0).is(1);
        r.sum(1).is(300);
        r.sum(2).is(100);
        r.found(1).is(2);
        r.back(2, true).is(1);
        r.sum(2).is(100);

        r = run("Promise 10: what was paid is 0");
        r.lostItem(0).pay(1);
        r.table(0, 0, 300, 0).is(1);
        r.item(0, 300, 0, 0, 0).is(2);
        r.table(0, 0, 0, 0).is(1);
        r.pay(2);
        r.table(0, 0, 300, 0).is(1);
        r.sum(1).is(0);
        r.sum(2).is(0);
        r.about(2, 0).is(1);
    }

    private static void limit() {
        Run r = run("Promise 11: OUTSIDE (person)");
        r.item(0, 5, 5, 0, 0).is(1);
        for (int person = 0; person < 10; person++) {
            r.limit(person, 4).is(1);
        }
        for (int person : outsideOf(0, 9)) {
            r.limit(person, 5).is(OUTSIDE);
        }
        r.claim(1, 3, 0, 0).is(1);
        r.proofs(1, 3);
        for (int person = 0; person < 10; person++) {
            r.decide(1, person).is(LIMIT);
        }
        r.limit(9, 5).is(1);
        r.decide(1, 8).is(LIMIT);
        r.decide(1, 9).is(1);

        r = run("Promise 11: OUTSIDE (cents 0 .. 10000000)");
        r.item(0, MOST_CENTS, MOST_CENTS, 0, 0).is(1);
        r.claim(1, 3, 0, 0).is(1);
        r.proofs(1, 3);
        for (long cents : new long[] {1, 0, MOST_CENTS - 1}) {
            r.limit(2, cents).is(1);
            r.decide(1, 2).is(LIMIT);
        }
        for (long cents : NO_CENTS) {
            r.limit(2, cents).is(OUTSIDE);
            r.decide(1, 2).is(LIMIT);
        }
        r.limit(2, MOST_CENTS).is(1);
        r.limit(2, MOST_CENTS + 1).is(OUTSIDE);
        r.limit(2, -1).is(OUTSIDE);
        r.decide(1, 2).is(1);

        r = run("Promise 11: each person's limit is its own, the newest one");
        r.item(0, 5, 5, 0, 0).is(1);
        r.claim(1, 3, 0, 0).is(1);
        r.proofs(1, 3);
        r.limit(4, 5).is(1);
        r.decide(1, 3).is(LIMIT);
        r.decide(1, 5).is(LIMIT);
        r.limit(4, 4).is(1);
        r.decide(1, 4).is(LIMIT);
        r.limit(4, 5).is(1);
        r.decide(1, 4).is(1);
    }

    private static void decide() {
        Run r = run("Promise 12: UNKNOWN");
        r.lostItem(5);
        r.decide(1, 0).is(UNKNOWN);
        r.ready(1, false).is(1);
        r.decide(2, 0).is(UNKNOWN);
        for (int claim : NO_NUMBERS) {
            r.decide(claim, 0).is(UNKNOWN);
        }
        r.decide(1, 0).is(1);

        r = run("Promise 12: OUTSIDE (person)");
        r.item(0, 0, 0, 0, 0).is(1);
        r.item(0, 0, 0, 0, 0).is(2);
        r.ready(1, false).is(1);
        r.ready(2, true).is(2);
        for (int person : outsideOf(0, 9)) {
            r.decide(1, person).is(OUTSIDE);
            r.decide(2, person).is(OUTSIDE);
        }
        r.decide(1, 9).is(1);
        r.decide(2, 0).is(2);

        r = run("Promise 12: STATE (it is not open)");
        r.lostItem(5);
        r.item(0, 5, 0, 0, 0).is(2);
        r.pay(1);
        r.decide(1, 0).is(STATE);
        r.ready(2, true).is(2);
        r.decide(2, 0).is(2);
        r.decide(2, 0).is(STATE);
        r.all(0).is(5);
        r.all(2).is(1);
        r.all(3).is(4);

        r = run("Promise 12: STATE (a proof lacks), also of one that was found whole");
        r.lostItem(5);
        r.claim(1, 0, 0, 0).is(1);
        r.search(1, 0, 0).is(1);
        r.answer(1, true).is(1);
        r.decide(1, 0).is(STATE);
        r.about(1, 0).is(0);
        r.proof(1, 0).is(0);
        r.decide(1, 0).is(2);

        r = run("Promise 12: STATE (a search lacks, or is unanswered), also of one that was found whole");
        r.lostItem(5);
        r.claim(1, 0, 0, 0).is(1);
        r.proof(1, 0).is(0);
        r.decide(1, 0).is(STATE);
        r.search(1, 0, 5).is(1);
        r.search(1, 0, 5).is(2);
        r.answer(1, true).is(1);
        r.decide(1, 0).is(STATE);
        r.tick(5).is(0);
        r.decide(1, 0).is(STATE);
        r.tick(6).is(1);
        r.decide(1, 0).is(2);

        for (int kind = 1; kind < 4; kind++) {
            r = run("Promise 12: kind " + kind + " needs no search");
            r.lostItem(20);
            r.claim(1, kind, 0, 0).is(1);
            r.proofs(1, kind).decide(1, 0).is(1);
            r.paid(1, kind).is(1);
        }

        for (int kind = 0; kind < 4; kind++) {
            r = run("Promise 12: LIMIT looks at the sum of kind " + kind + ", not at its base");
            long sum = new long[] {205, 20, 102, 205}[kind];
            r.lostItem(205);
            r.claim(1, kind, 0, 0).is(1);
            r.proofs(1, kind);
            if (kind == 0) {
                r.search(1, 0, 0).is(1);
                r.answer(1, false).is(1);
            }
            r.limit(6, sum - 1).is(1);
            r.decide(1, 6).is(LIMIT);
            r.about(1, 0).is(0);
            r.sum(1).is(sum);
            r.limit(6, sum).is(1);
            r.decide(1, 6).is(1);
            r.all(0).is(sum);
        }
    }

    private static void share() {
        Run r = run("Promise 13: UNKNOWN");
        r.lostItem(5).posts(1, 0);
        r.share(1, 0).is(UNKNOWN);
        r.pay(1);
        r.share(1, 0).is(5);
        r.share(2, 0).is(UNKNOWN);
        for (int claim : NO_NUMBERS) {
            r.share(claim, 0).is(UNKNOWN);
        }

        r = run("Promise 13: OUTSIDE (post)");
        r.lostItem(21).posts(1, 0, 1, 2, 3, 4, 5).pay(1);
        r.shares(1, 4, 4, 4, 3, 3, 3);
        for (int post : outsideOf(0, 5)) {
            r.share(1, post).is(OUTSIDE);
        }

        r = run("Promise 13: OUTSIDE (post) of an open claim too");
        r.item(0, 1, 1, 0, 0).is(1);
        r.claim(1, 0, 0, 0).is(1);
        r.share(1, -1).is(OUTSIDE);
        r.share(1, 6).is(OUTSIDE);

        r = run("Promise 13: 0 of others");
        r.lostItem(12).posts(1, 0, 1);
        r.ready(1, true).is(1);
        r.shares(1, 0, 0, 0, 0, 0, 0);
        r.decide(1, 0).is(2);
        r.shares(1, 0, 0, 0, 0, 0, 0);
        r.appeal(1).is(1);
        r.shares(1, 0, 0, 0, 0, 0, 0);
        r.search(1, 0, 0).is(2);
        r.answer(2, false).is(1);
        r.decide(1, 0).is(1);
        r.shares(1, 6, 6, 0, 0, 0, 0);

        r = run("Promise 13: by the posts that its item has passed by now");
        r.lostItem(12).posts(1, 0).pay(1);
        r.shares(1, 12, 0, 0, 0, 0, 0);
        r.pass(1, 1, false).is(2);
        r.shares(1, 6, 6, 0, 0, 0, 0);
        r.pass(1, 0, true).is(3);
        r.shares(1, 12, 0, 0, 0, 0, 0);
        r.pass(1, 2, false).is(4);
        r.shares(1, 6, 0, 6, 0, 0, 0);

        r = run("Promise 13: by its own item's posts");
        r.lostItem(12).posts(1, 0).pay(1);
        r.item(0, 12, 0, 0, 0).is(2);
        r.posts(2, 3).pay(2);
        r.shares(1, 12, 0, 0, 0, 0, 0);
        r.shares(2, 0, 0, 0, 12, 0, 0);

        r = run("Promise 13: of what was paid, whatever the table says now");
        r.lostItem(12).posts(1, 0).pay(1);
        r.table(0, 0, 5, 0).is(1);
        r.share(1, 0).is(12);
        r.found(1).is(1);
        r.back(1, true).is(1);
        r.share(1, 0).is(12);

        for (int kind = 1; kind < 4; kind++) {
            r = run("Promise 13: of a paid claim of kind " + kind);
            r.lostItem(100).posts(1, 4);
            r.claim(1, kind, 0, 0).is(1);
            r.proofs(1, kind).decide(1, 0).is(1);
            r.share(1, 4).is(new long[] {100, 10, 50, 100}[kind]);
        }
    }

    private static void found() {
        Run r = run("Promise 14: UNKNOWN");
        r.found(1).is(UNKNOWN);
        r.lostItem(5).pay(1);
        r.found(2).is(UNKNOWN);
        for (int item : NO_NUMBERS) {
            r.found(item).is(UNKNOWN);
        }
        r.found(1).is(1);

        r = run("Promise 14: the claim that was paid for it");
        r.lostItem(5);
        r.item(0, 5, 0, 0, 0).is(2);
        r.claim(2, 1, 0, 0).is(1);
        r.ready(2, true).is(2);
        r.decide(2, 0).is(2);
        r.pay(2);
        r.pay(1);
        r.found(2).is(3);
        r.found(1).is(4);

        r = run("Promise 14: STATE (none): no claim, an open one, a refused one, one of another kind or item");
        r.lostItem(20);
        r.item(0, 20, 0, 0, 0).is(2);
        r.found(1).is(STATE);
        r.claim(1, 3, 0, 0).is(1);
        r.proofs(1, 3).decide(1, 0).is(1);
        r.found(1).is(STATE);
        r.ready(1, true).is(2);
        r.found(1).is(STATE);
        r.decide(2, 0).is(2);
        r.found(1).is(STATE);
        r.appeal(2).is(1);
        r.found(1).is(STATE);
        r.pay(2);
        r.found(1).is(STATE);
        r.found(2).is(3);

        r = run("Promise 14: STATE (it was found), also behind what was asked back");
        r.lostItem(5).pay(1);
        r.found(1).is(1);
        r.found(1).is(STATE);
        r.back(1, true).is(1);
        r.found(1).is(STATE);

        r = run("Promise 14: the last item that there may be");
        for (int number = 1; number <= 100; number++) {
            r.item(0, 0, 0, 0, 0).is(number);
        }
        r.pay(100);
        r.found(100).is(1);
        r.found(101).is(UNKNOWN);
    }

    private static void back() {
        Run r = run("Promise 15: UNKNOWN (claim)");
        r.lostItem(5).pay(1);
        r.found(1).is(1);
        r.back(2, true).is(UNKNOWN);
        for (int claim : NO_NUMBERS) {
            r.back(claim, true).is(UNKNOWN);
        }
        r.back(1, true).is(1);

        r = run("Promise 15: STATE (its item was not found)");
        r.lostItem(5);
        r.item(0, 5, 0, 0, 0).is(2);
        r.ready(1, false).is(1);
        r.back(1, true).is(STATE);
        r.decide(1, 0).is(1);
        r.back(1, true).is(STATE);
        r.back(1, false).is(STATE);
        r.pay(2);
        r.found(2).is(2);
        r.back(1, true).is(STATE);
        r.all(1).is(0);
        r.back(2, true).is(1);

        for (int first = 0; first < 2; first++) {
            for (int second = 0; second < 2; second++) {
                r = run("Promise 15: STATE (this is said already): " + first + ", then " + second);
                r.lostItem(5).pay(1);
                r.found(1).is(1);
                r.back(1, first == 1).is(1);
                r.back(1, second == 1).is(STATE);
                r.all(1).is(5 * first);
                r.all(3).is(2 + first);
            }
        }

        r = run("Promise 15: STATE of what was not paid for the loss of the found item");
        r.lostItem(20);
        r.claim(1, 2, 1, 0).is(1);
        r.proofs(1, 2).decide(1, 0).is(1);
        r.ready(1, true).is(2);
        r.decide(2, 0).is(2);
        r.pay(1);
        r.claim(1, 3, 0, 0).is(4);
        r.found(1).is(3);
        for (int claim : new int[] {1, 2, 4}) {
            r.back(claim, true).is(STATE);
            r.back(claim, false).is(STATE);
        }
        r.all(1).is(0);
        r.back(3, true).is(1);
        r.all(1).is(20);

        r = run("Promise 15: what was paid is recovered, whatever the table says now");
        r.lostItem(5).pay(1);
        r.found(1).is(1);
        r.table(0, 0, 1, 0).is(1);
        r.back(1, true).is(1);
        r.all(1).is(5);
        r.all(0).is(5);
        r.about(1, 0).is(1);
        r.paid(1, 0).is(1);
    }

    private static void appeal() {
        Run r = run("Promise 16: UNKNOWN");
        r.lostItem(5);
        r.ready(1, true).is(1);
        r.decide(1, 0).is(2);
        r.appeal(2).is(UNKNOWN);
        for (int claim : NO_NUMBERS) {
            r.appeal(claim).is(UNKNOWN);
        }
        r.appeal(1).is(1);

        r = run("Promise 16: STATE (it is not refused)");
        r.lostItem(5);
        r.ready(1, false).is(1);
        r.appeal(1).is(STATE);
        r.decide(1, 0).is(1);
        r.appeal(1).is(STATE);
        r.all(3).is(2);

        r = run("Promise 16: STATE (it was appealed already), open, refused again, or paid");
        r.lostItem(5);
        r.item(0, 5, 0, 0, 0).is(2);
        for (int item = 1; item <= 2; item++) {
            r.ready(item, true).is(item);
            r.decide(item, 0).is(2);
            r.appeal(item).is(1);
            r.appeal(item).is(STATE);
        }
        r.search(1, 0, 0).is(3);
        r.answer(3, true).is(1);
        r.decide(1, 0).is(2);
        r.appeal(1).is(STATE);
        r.search(2, 0, 0).is(4);
        r.answer(4, false).is(1);
        r.decide(2, 0).is(1);
        r.appeal(2).is(STATE);

        r = run("Promise 16: STATE (there is another one that is not refused): open, paid");
        r.lostItem(5);
        r.ready(1, true).is(1);
        r.decide(1, 0).is(2);
        r.ready(1, false).is(2);
        r.appeal(1).is(STATE);
        r.decide(2, 0).is(1);
        r.appeal(1).is(STATE);
        r.about(1, 0).is(2);

        r = run("Promise 16: STATE (there is another one): it was appealed itself");
        r.lostItem(5);
        r.ready(1, true).is(1);
        r.decide(1, 0).is(2);
        r.ready(1, true).is(2);
        r.decide(2, 0).is(2);
        r.appeal(2).is(1);
        r.appeal(1).is(STATE);
        r.search(2, 0, 0).is(3);
        r.answer(3, true).is(1);
        r.decide(2, 0).is(2);
        r.appeal(1).is(1);

        r = run("Promise 16: another one of its item or of its kind alone is no hindrance, nor one that is refused");
        r.lostItem(5);
        r.item(0, 5, 0, 0, 0).is(2);
        r.ready(1, true).is(1);
        r.decide(1, 0).is(2);
        r.claim(1, 3, 0, 0).is(2);
        r.claim(2, 0, 0, 0).is(3);
        r.ready(1, true).is(4);
        r.decide(4, 0).is(2);
        r.appeal(1).is(1);
        r.about(1, 0).is(0);
    }

    private static void paid() {
        Run r = run("Promise 17: false where there is none such");
        r.paid(1, 0).is(0);
        r.lostItem(5).pay(1);
        r.paid(1, 0).is(1);
        for (int kind : outsideOf(0, 0)) {
            r.paid(1, kind).is(0);
        }
        r.paid(2, 0).is(0);
        for (int item : NO_NUMBERS) {
            r.paid(item, 0).is(0);
        }
        r.paid(0, 4).is(0);

        for (int kind = 0; kind < 4; kind++) {
            r = run("Promise 17: by kind " + kind + " alone");
            r.lostItem(20);
            r.item(0, 20, 0, 0, 0).is(2);
            r.claim(1, kind, 0, 0).is(1);
            r.proofs(1, kind);
            if (kind == 0) {
                r.search(1, 0, 0).is(1);
                r.answer(1, false).is(1);
            }
            r.paid(1, kind).is(0);
            r.decide(1, 0).is(1);
            for (int other = -1; other <= 4; other++) {
                r.paid(1, other).is(other == kind ? 1 : 0);
                r.paid(2, other).is(0);
            }
        }

        r = run("Promise 17: a refused one is not paid for, one that pays 0 is, one that was asked back was");
        r.lostItem(0);
        r.ready(1, true).is(1);
        r.decide(1, 0).is(2);
        r.paid(1, 0).is(0);
        r.pay(1);
        r.paid(1, 0).is(1);
        r.found(1).is(2);
        r.back(2, true).is(1);
        r.paid(1, 0).is(1);
    }

    private static void about() {
        Run r = run("Promise 18: UNKNOWN");
        r.about(1, 0).is(UNKNOWN);
        r.item(0, 1, 1, 0, 0).is(1);
        r.claim(1, 0, 0, 0).is(1);
        r.about(2, 0).is(UNKNOWN);
        for (int claim : NO_NUMBERS) {
            r.about(claim, 0).is(UNKNOWN);
        }

        r = run("Promise 18: OUTSIDE");
        r.item(0, 1, 1, 0, 0).is(1);
        r.claim(1, 3, 0, 0).is(1);
        for (int what : outsideOf(0, 5)) {
            r.about(1, what).is(OUTSIDE);
        }
        long[] want = {0, 1, 3, 3, 0, 0};
        for (int what = 0; what < 6; what++) {
            r.about(1, what).is(want[what]);
        }

        r = run("Promise 18: 1 its item, 2 its kind");
        for (int item = 1; item <= 4; item++) {
            r.item(0, 1, 1, 0, 0).is(item);
        }
        for (int number = 1; number <= 4; number++) {
            r.claim(5 - number, number % 4, 0, 0).is(number);
        }
        for (int number = 1; number <= 4; number++) {
            r.about(number, 1).is(5 - number);
            r.about(number, 2).is(number % 4);
        }

        r = run("Promise 18: 4 how many of its searches are unanswered");
        r.lostItem(5);
        r.item(0, 5, 0, 0, 0).is(2);
        r.claim(1, 0, 0, 0).is(1);
        r.claim(2, 0, 0, 0).is(2);
        r.about(1, 4).is(0);
        for (int number = 1; number <= 3; number++) {
            r.search(1, 0, number).is(number);
            r.about(1, 4).is(number);
        }
        r.about(2, 4).is(0);
        r.answer(3, true).is(1);
        r.about(1, 4).is(2);
        r.tick(2).is(1);
        r.about(1, 4).is(1);
        r.answer(2, false).is(1);
        r.about(1, 4).is(0);

        r = run("Promise 18: 5 how many claims its item's sender's items had before it");
        r.lostItem(5);
        r.item(0, 5, 0, 0, 1).is(2);
        r.item(0, 5, 0, 0, 0).is(3);
        r.ready(1, true).is(1);
        r.decide(1, 0).is(2);
        r.claim(2, 0, 0, 0).is(2);
        r.claim(3, 0, 0, 0).is(3);
        r.claim(1, 0, 0, 0).is(4);
        r.claim(2, 1, 1, 0).is(5);
        r.claim(1, 1, 2, 0).is(WHO);
        r.claim(1, 1, 0, 0).is(6);
        long[] before = {0, 0, 1, 2, 1, 3};
        for (int number = 1; number <= 6; number++) {
            r.about(number, 5).is(before[number - 1]);
        }

        r = run("Promise 18: 5 of the sixtieth claim");
        for (int number = 1; number <= 60; number++) {
            r.item(0, 1, 1, 0, 19).is(number);
            r.claim(number, 2, 1, 0).is(number);
            r.about(number, 5).is(number - 1);
        }
    }

    private static void letter() {
        Run r = run("Promise 19: -1 when there is none such");
        r.letter(0, 0).is(-1);
        r.item(0, 1, 1, 0, 0).is(1);
        r.letter(0, 0).is(-1);
        r.letter(0, 1).is(-1);
        r.claim(1, 1, 1, 0).is(1);
        r.letter(0, 0).is(1);
        r.letter(0, 1).is(1);
        for (int i : new int[] {-1, 1, 199, 200, MIN, MAX}) {
            r.letter(i, 0).is(-1);
            r.letter(i, 1).is(-1);
        }
        for (int what : outsideOf(0, 1)) {
            r.letter(0, what).is(-1);
        }
        r.proof(1, 0).is(1);
        r.letter(1, 0).is(1);
        r.letter(1, 1).is(2);
        r.letter(2, 0).is(-1);

        r = run("Promise 19: its claim, its kind, in the order in which they went out");
        r.lostItem(5);
        r.item(0, 5, 0, 0, 0).is(2);
        r.claim(1, 3, 0, 0).is(1);
        r.ready(2, true).is(2);
        r.proof(1, 3).is(2);
        r.decide(2, 0).is(2);
        r.pay(1);
        r.appeal(2).is(1);
        r.found(1).is(3);
        r.back(3, true).is(1);
        r.letters(1, 1, 2, 1, 1, 2, 2, 4, 3, 1, 3, 3, 2, 6, 3, 5);

        r = run("Promise 19: calls that are refused send no letter, nor do those that tell of none");
        r.lostItem(5);
        r.claim(1, 0, 1, 0).is(WHO);
        r.claim(1, 0, 0, 1).is(TIME);
        r.claim(1, 0, 0, 0).is(1);
        r.claim(1, 0, 0, 0).is(STATE);
        r.proof(1, 1).is(STATE);
        r.decide(1, 0).is(STATE);
        r.proof(1, 0).is(0);
        r.search(1, 0, 0).is(1);
        r.tick(1).is(1);
        r.limit(0, 4).is(1);
        r.decide(1, 0).is(LIMIT);
        r.appeal(1).is(STATE);
        r.back(1, true).is(STATE);
        r.letters(1, 1);
    }

    private static void all() {
        Run r = run("Promise 20: OUTSIDE");
        for (int what : outsideOf(0, 3)) {
            r.all(what).is(OUTSIDE);
        }
        for (int what = 0; what < 4; what++) {
            r.all(what).is(0);
        }

        r = run("Promise 20: 0 paid, of sixty claims with the largest sum");
        r.limit(9, MOST_CENTS).is(1);
        for (int number = 1; number <= 60; number++) {
            r.item(0, MOST_CENTS, MOST_CENTS, 0, 0).is(number);
            r.claim(number, 3, 0, 0).is(number);
            r.proofs(number, 3).decide(number, 9).is(1);
        }
        r.all(0).is(60 * MOST_CENTS);
        r.all(1).is(0);
        r.all(3).is(240);

        r = run("Promise 20: 1 recovered, of sixty claims with the largest sum");
        r.limit(9, MOST_CENTS).is(1);
        for (int number = 1; number <= 60; number++) {
            r.item(0, MOST_CENTS, MOST_CENTS, 0, 0).is(number);
            r.claim(number, 0, 0, 0).is(number);
            r.proof(number, 0).is(0);
            r.search(number, 0, 0).is(number);
        }
        r.tick(1).is(60);
        for (int number = 1; number <= 60; number++) {
            r.decide(number, 9).is(1);
            r.found(number).is(number);
            r.back(number, true).is(1);
        }
        r.all(0).is(60 * MOST_CENTS);
        r.all(1).is(60 * MOST_CENTS);
        r.all(2).is(0);
        r.all(3).is(180);

        r = run("Promise 20: 2 how many were refused (each time)");
        r.lostItem(5);
        r.ready(1, true).is(1);
        r.all(2).is(0);
        r.decide(1, 0).is(2);
        r.all(2).is(1);
        r.appeal(1).is(1);
        r.all(2).is(1);
        r.search(1, 0, 0).is(2);
        r.answer(2, true).is(1);
        r.decide(1, 0).is(2);
        r.all(2).is(2);
        r.pay(1);
        r.limit(0, 0).is(1);
        r.claim(1, 3, 0, 0).is(3);
        r.proofs(3, 3).decide(3, 0).is(LIMIT);
        r.all(2).is(2);

        r = run("Promise 20: 3 letters (all that went out, also those that are not kept)");
        r.limit(0, 1).is(1);
        for (int number = 1; number <= 60; number++) {
            r.item(0, 1, 1, 0, 0).is(number);
            r.claim(number, 3, 0, 0).is(number);
            r.proofs(number, 3);
        }
        for (int number = 1; number <= 60; number++) {
            r.decide(number, 0).is(1);
            r.all(3).is(180 + number);
        }
        r.letter(199, 0).is(20);
        r.letter(200, 0).is(-1);
    }

    // ---- how the runs are played

    /** A call by its name and its numbers, so that it can be played again on other objects. */
    private record Call(String name, long... args) {
        int at(int i) {
            return (int) args[i];
        }

        boolean is(int i) {
            return args[i] != 0;
        }

        boolean asks() {
            return switch (name) {
                case "sum", "share", "paid", "about", "letter", "all" -> true;
                default -> false;
            };
        }

        long on(ClaimRows x) {
            return switch (name) {
                case "item" -> x.item(at(0), args[1], args[2], at(3), at(4));
                case "pass" -> x.pass(at(0), at(1), is(2));
                case "table" -> x.table(at(0), at(1), args[2], at(3));
                case "claim" -> x.claim(at(0), at(1), at(2), at(3));
                case "proof" -> x.proof(at(0), at(1));
                case "search" -> x.search(at(0), at(1), at(2));
                case "answer" -> x.answer(at(0), is(1));
                case "tick" -> x.tick(at(0));
                case "sum" -> x.sum(at(0));
                case "limit" -> x.limit(at(0), args[1]);
                case "decide" -> x.decide(at(0), at(1));
                case "share" -> x.share(at(0), at(1));
                case "found" -> x.found(at(0));
                case "back" -> x.back(at(0), is(1));
                case "appeal" -> x.appeal(at(0));
                case "paid" -> x.paid(at(0), at(1)) ? 1 : 0;
                case "about" -> x.about(at(0), at(1));
                case "letter" -> x.letter(at(0), at(1));
                case "all" -> x.all(at(0));
                default -> throw new IllegalArgumentException(name);
            };
        }

        String text() {
            String numbers = Arrays.toString(args);
            return name + "(" + numbers.substring(1, numbers.length() - 1) + ")";
        }
    }

    /** A run of calls on a new object: each call is played at once, and is(..) says what was due. */
    private static final class Run {
        final String sentence;
        final ClaimRows rows = new ClaimRows();
        final List<Call> calls = new ArrayList<>();
        final List<Long> answers = new ArrayList<>();

        Run(String sentence) {
            this.sentence = sentence;
        }

        Run play(String name, long... args) {
            Call call = new Call(name, args);
            calls.add(call);
            answers.add(call.on(rows));
            if (calls.size() == MOST_CALLS + 1) {
                say(sentence + ": the test itself makes more than " + MOST_CALLS + " calls");
            }
            return this;
        }

        int answer() {
            return (int) (long) answers.get(answers.size() - 1);
        }

        void is(long want) {
            long got = answers.get(answers.size() - 1);
            if (got != want) {
                say(sentence + ": " + calls.get(calls.size() - 1).text() + " answered " + got + ", due is " + want);
            }
        }

        Run item(int service, long value, long insured, int day, int sender) {
            return play("item", service, value, insured, day, sender);
        }

        Run pass(int item, int post, boolean whole) {
            return play("pass", item, post, whole ? 1 : 0);
        }

        Run table(int service, int kind, long most, int days) {
            return play("table", service, kind, most, days);
        }

        Run claim(int item, int kind, int who, int day) {
            return play("claim", item, kind, who, day);
        }

        Run proof(int claim, int proof) {
            return play("proof", claim, proof);
        }

        Run search(int claim, int place, int due) {
            return play("search", claim, place, due);
        }

        Run answer(int search, boolean whole) {
            return play("answer", search, whole ? 1 : 0);
        }

        Run tick(int day) {
            return play("tick", day);
        }

        Run sum(int claim) {
            return play("sum", claim);
        }

        Run limit(int person, long cents) {
            return play("limit", person, cents);
        }

        Run decide(int claim, int person) {
            return play("decide", claim, person);
        }

        Run share(int claim, int post) {
            return play("share", claim, post);
        }

        Run found(int item) {
            return play("found", item);
        }

        Run back(int claim, boolean asks) {
            return play("back", claim, asks ? 1 : 0);
        }

        Run appeal(int claim) {
            return play("appeal", claim);
        }

        Run paid(int item, int kind) {
            return play("paid", item, kind);
        }

        Run about(int claim, int what) {
            return play("about", claim, what);
        }

        Run letter(int i, int what) {
            return play("letter", i, what);
        }

        Run all(int what) {
            return play("all", what);
        }

        /** An item of service 0 and day 0 whose value every row of its service pays; person 0 may decide all. */
        Run lostItem(long value) {
            item(0, value, 0, 0, 0);
            for (int kind = 0; kind < 4; kind++) {
                table(0, kind, value, 0);
            }
            return limit(0, MOST_CENTS);
        }

        Run posts(int item, int... posts) {
            for (int post : posts) {
                pass(item, post, false);
            }
            return this;
        }

        Run proofs(int claim, int kind) {
            for (int proof : NEEDED[kind]) {
                proof(claim, proof);
            }
            return this;
        }

        /** A claim of kind 0 that has its proof and one search, answered so; the last answer is the claim's number. */
        Run ready(int item, boolean whole) {
            int claim = claim(item, 0, 0, 0).answer();
            long number = claim;
            proof(claim, 0);
            int search = search(claim, 0, 200000).answer();
            answer(search, whole);
            answers.set(answers.size() - 1, number);
            return this;
        }

        /** A claim of kind 0 that person 0 pays. */
        Run pay(int item) {
            int claim = ready(item, false).answer();
            decide(claim, 0).is(1);
            return this;
        }

        void shares(int claim, long... want) {
            for (int post = 0; post < want.length; post++) {
                share(claim, post).is(want[post]);
            }
        }

        /** These are all the letters: a claim and a kind each. */
        void letters(long... want) {
            for (int i = 0; i < want.length; i++) {
                letter(i / 2, i % 2).is(want[i]);
            }
            letter(want.length / 2, 0).is(-1);
            letter(want.length / 2, 1).is(-1);
            all(3).is(want.length / 2);
        }

        /** Each call that was refused, or only asks, alone behind those that changed something. How many there are. */
        int lookAtRefusals() {
            List<Call> before = new ArrayList<>();
            List<String> looked = new ArrayList<>();
            int count = 0;
            for (int i = 0; i < calls.size(); i++) {
                Call call = calls.get(i);
                boolean refused = answers.get(i) <= UNKNOWN;
                if (!refused && !call.asks()) {
                    before.add(call);
                    looked.clear();
                } else if (!looked.contains(call.text())) {
                    looked.add(call.text());
                    dueUnchanged(before, call);
                    count++;
                }
            }
            return count;
        }

        void dueUnchanged(List<Call> before, Call call) {
            int room = MOST_CALLS - before.size() - 1;
            for (List<Call> probe : new Probes(before).all(room)) {
                ClaimRows with = played(before);
                ClaimRows without = played(before);
                call.on(with);
                for (int i = 0; i < probe.size() && i < room; i++) {
                    long got = probe.get(i).on(with);
                    long want = probe.get(i).on(without);
                    if (got != want) {
                        say(sentence + ": " + call.text() + " changes something: " + probe.get(i).text() + " answers " + got
                            + " behind it, and " + want + " without it");
                        return;
                    }
                }
            }
        }
    }

    private static ClaimRows played(List<Call> calls) {
        ClaimRows x = new ClaimRows();
        for (Call call : calls) {
            call.on(x);
        }
        return x;
    }

    /** Calls that show what an object keeps, made from what the calls before them set. */
    private static final class Probes {
        int items, claims, searches, clock, letters;
        final int[][] days = new int[4][4];
        final long[] limits = new long[10];
        final List<List<Call>> probes = new ArrayList<>();
        List<Call> probe;

        Probes(List<Call> before) {
            ClaimRows x = new ClaimRows();
            for (Call call : before) {
                learn(call, call.on(x));
            }
            letters = (int) x.all(3);
        }

        void learn(Call call, long answer) {
            if (answer <= UNKNOWN) {
                return;
            }
            switch (call.name()) {
                case "item" -> items++;
                case "claim" -> claims++;
                case "search" -> searches++;
                case "tick" -> clock = call.at(0);
                case "table" -> days[call.at(0)][call.at(1)] = call.at(3);
                case "limit" -> limits[call.at(0)] = call.args()[1];
                default -> { }
            }
        }

        List<List<Call>> all(int room) {
            asks(room);
            numbers();
            clock();
            tables();
            limits();
            proofs();
            answers(0);
            answers(1);
            decisions();
            foundAndBack();
            appeals();
            posts();
            claimsAgain();
            return probes;
        }

        void begin() {
            probe = new ArrayList<>();
            probes.add(probe);
        }

        void add(String name, long... args) {
            probe.add(new Call(name, args));
        }

        /** All that can be asked, in parts that an object has room for. */
        void asks(int room) {
            List<Call> asks = new ArrayList<>();
            for (int what = -1; what <= 4; what++) {
                asks.add(new Call("all", what));
            }
            for (int claim = 1; claim <= claims + 1; claim++) {
                asks.add(new Call("sum", claim));
                for (int what = 0; what < 6; what++) {
                    asks.add(new Call("about", claim, what));
                    asks.add(new Call("share", claim, what));
                }
            }
            for (int item = 1; item <= items + 1; item++) {
                for (int kind = 0; kind < 4; kind++) {
                    asks.add(new Call("paid", item, kind));
                }
            }
            for (int i = 0; i <= Math.min(letters, 200); i++) {
                asks.add(new Call("letter", i, 0));
                asks.add(new Call("letter", i, 1));
            }
            for (int from = 0; room > 0 && from < asks.size(); from += room) {
                probes.add(asks.subList(from, Math.min(from + room, asks.size())));
            }
        }

        void numbers() {
            begin();
            for (int i = 1; i <= 2; i++) {
                add("item", 0, 1, 1, 0, 0);
                add("claim", items + i, 0, 0, 0);
                add("about", claims + i, 5);
                add("search", claims + i, 0, 200000);
                add("answer", searches + i, 1);
            }
            add("all", 3);
        }

        void clock() {
            begin();
            add("item", 0, 1, 1, 0, 0);
            add("claim", items + 1, 0, 0, 0);
            add("search", claims + 1, 0, clock - 1);
            add("search", claims + 1, 0, clock);
            add("tick", clock - 1);
            add("tick", clock);
            for (int day = 1; day <= 12; day++) {
                add("tick", clock + day);
            }
            for (int claim = 1; claim <= claims + 1; claim++) {
                add("about", claim, 4);
            }
            add("tick", 199999);
            add("tick", 200000);
        }

        void tables() {
            begin();
            for (int service = 0; service < 4; service++) {
                add("item", service, MOST_CENTS, 0, 0, 0);
                for (int kind = 0; kind < 4; kind++) {
                    add("claim", items + service + 1, kind, 0, days[service][kind] + 1);
                    add("claim", items + service + 1, kind, 0, days[service][kind]);
                    add("sum", claims + 4 * service + kind + 1);
                }
            }
        }

        void limits() {
            begin();
            for (int person = 0; person < 10; person++) {
                for (int more = 0; more < 2; more++) {
                    int i = 2 * person + more + 1;
                    add("item", 0, limits[person] + more, Math.min(limits[person] + 1, MOST_CENTS), 0, 0);
                    add("claim", items + i, 3, 0, 0);
                    for (int proof : NEEDED[3]) {
                        add("proof", claims + i, proof);
                    }
                    add("decide", claims + i, person);
                }
            }
        }

        void proofs() {
            begin();
            add("limit", 9, MOST_CENTS);
            for (int claim = 1; claim <= claims; claim++) {
                for (int proof = 0; proof < 4; proof++) {
                    add("proof", claim, proof);
                }
                add("decide", claim, 9);
            }
            add("all", 0);
            add("all", 3);
        }

        void answers(int whole) {
            begin();
            add("limit", 9, MOST_CENTS);
            for (int search = 1; search <= searches; search++) {
                add("answer", search, whole);
            }
            for (int claim = 1; claim <= claims; claim++) {
                add("proof", claim, 0);
                add("decide", claim, 9);
                add("about", claim, 4);
            }
            for (int what = 0; what < 4; what++) {
                add("all", what);
            }
        }

        void decisions() {
            begin();
            for (int person = 9; person >= 0; person--) {
                for (int claim = 1; claim <= Math.min(claims, 20); claim++) {
                    add("decide", claim, person);
                }
            }
        }

        void foundAndBack() {
            begin();
            for (int item = 1; item <= items; item++) {
                add("found", item);
            }
            for (int claim = 1; claim <= claims; claim++) {
                add("back", claim, 1);
                add("all", 1);
            }
        }

        void appeals() {
            begin();
            for (int claim = 1; claim <= claims; claim++) {
                add("appeal", claim);
                add("decide", claim, 0);
                add("search", claim, 0, 200000);
                add("about", claim, 4);
            }
            add("all", 2);
        }

        void posts() {
            begin();
            add("limit", 9, MOST_CENTS);
            for (int claim = 1; claim <= Math.min(claims, 10); claim++) {
                add("decide", claim, 9);
                for (int post = 0; post < 6; post++) {
                    add("share", claim, post);
                }
            }
            for (int item = 1; item <= Math.min(items, 10); item++) {
                for (int i = 0; i < 9; i++) {
                    add("pass", item, i % 6, 0);
                }
            }
            for (int claim = 1; claim <= Math.min(claims, 10); claim++) {
                add("share", claim, 0);
                add("share", claim, 5);
            }
        }

        void claimsAgain() {
            begin();
            for (int item = 1; item <= items; item++) {
                for (int kind = 0; kind < 4; kind++) {
                    add("claim", item, kind, 0, 0);
                }
            }
            for (int claim = 1; claim <= 60; claim++) {
                add("about", claim, 5);
            }
        }
    }
}
