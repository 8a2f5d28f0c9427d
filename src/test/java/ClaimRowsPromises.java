/** A test for each promise of the document, named by its number: ordinary inputs, edges, wrong inputs. */
public final class ClaimRowsPromises {
    private static final int UNKNOWN = -101, OUTSIDE = -102, STATE = -103, ROOM = -104, WHO = -105, TIME = -106, LIMIT = -107;
    private static final int MIN = Integer.MIN_VALUE, MAX = Integer.MAX_VALUE;
    private static int wrong = 0;
    private static String part = "";

    private static void due(String call, long got, long want) {
        if (got != want) {
            wrong++;
            System.out.println(part + ": " + call + " answered " + got + ", due is " + want);
        }
    }

    private static void due(String call, boolean got, boolean want) {
        due(call, got ? 1 : 0, want ? 1 : 0);
    }

    public static void main(String[] args) {
        constants();
        newObject();
        item();
        itemRoom();
        pass();
        table();
        tableRowsAreApart();
        claimNumbersAndWrongInputs();
        claimWho();
        claimTime();
        claimState();
        claimRoom();
        claimRefusalOrder();
        proof();
        proofOfClosedClaim();
        search();
        searchRoom();
        answer();
        tick();
        sum();
        sumFollowsTheTableUntilPaid();
        limit();
        decide();
        decideLost();
        decideRefusesBeforeTheLimit();
        share();
        shareFollowsThePosts();
        shareOfManyPosts();
        found();
        back();
        backOfOtherClaims();
        appeal();
        appealBesideAnother();
        paid();
        about();
        letter();
        lettersBeyondTheKept();
        all();
        objectsAreApart();
        readmeExample();
        System.out.println(wrong == 0 ? "all answers are as due" : wrong + " answers are not as due");
        if (wrong != 0) {
            System.exit(1);
        }
    }

    // ---- objects that several tests begin with

    /** Item 1 of service 0 (value 1000, not insured, day 10, sender 2); each kind pays 300 at most, within 5 days. */
    private static ClaimRows withItem() {
        ClaimRows x = new ClaimRows();
        x.item(0, 1000, 0, 10, 2);
        for (int kind = 0; kind < 4; kind++) {
            x.table(0, kind, 300, 5);
        }
        return x;
    }

    /** As withItem, and person 0 may decide everything. */
    private static ClaimRows withJudge() {
        ClaimRows x = withItem();
        x.limit(0, 10000000);
        return x;
    }

    /** A claim for a lost item that is ready to be decided: it has its proof, and one search, answered so. */
    private static int readyLost(ClaimRows x, int item, boolean whole) {
        int claim = x.claim(item, 0, 0, 10);
        x.proof(claim, 0);
        x.answer(x.search(claim, 0, 200000), whole);
        return claim;
    }

    /** A claim for a lost item that was decided by person 0. */
    private static int decidedLost(ClaimRows x, int item, boolean whole) {
        int claim = readyLost(x, item, whole);
        due("decide", x.decide(claim, 0), whole ? 2 : 1);
        return claim;
    }

    private static void giveProofs(ClaimRows x, int claim) {
        for (int proof = 0; proof < 4; proof++) {
            x.proof(claim, proof);
        }
    }

    // ---- the face, promise 1

    private static void constants() {
        part = "constants";
        due("UNKNOWN", ClaimRows.UNKNOWN, UNKNOWN);
        due("OUTSIDE", ClaimRows.OUTSIDE, OUTSIDE);
        due("STATE", ClaimRows.STATE, STATE);
        due("ROOM", ClaimRows.ROOM, ROOM);
        due("WHO", ClaimRows.WHO, WHO);
        due("TIME", ClaimRows.TIME, TIME);
        due("LIMIT", ClaimRows.LIMIT, LIMIT);
    }

    private static void newObject() {
        part = "1 new object";
        ClaimRows x = new ClaimRows();
        due("pass", x.pass(1, 0, true), UNKNOWN);
        due("claim", x.claim(1, 0, 0, 0), UNKNOWN);
        due("found", x.found(1), UNKNOWN);
        due("about", x.about(1, 0), UNKNOWN);
        due("sum", x.sum(1), UNKNOWN);
        due("answer", x.answer(1, true), UNKNOWN);
        due("letter", x.letter(0, 0), -1);
        for (int what = 0; what < 4; what++) {
            due("all " + what, x.all(what), 0);
        }
        due("the clock is 0", x.tick(0), 0);
    }

    // ---- promise 2

    private static void item() {
        part = "2 item";
        ClaimRows x = new ClaimRows();
        due("least", x.item(0, 0, 0, 0, 0), 1);
        due("most", x.item(3, 10000000, 10000000, 100000, 19), 2);
        for (int service : new int[] {-1, 4, MIN, MAX}) {
            due("service " + service, x.item(service, 1, 1, 1, 1), OUTSIDE);
        }
        for (long cents : new long[] {-1, 10000001, Long.MIN_VALUE, Long.MAX_VALUE, 1L << 32}) {
            due("value " + cents, x.item(1, cents, 1, 1, 1), OUTSIDE);
            due("insured " + cents, x.item(1, 1, cents, 1, 1), OUTSIDE);
        }
        for (int day : new int[] {-1, 100001, MIN, MAX}) {
            due("day " + day, x.item(1, 1, 1, day, 1), OUTSIDE);
        }
        for (int sender : new int[] {-1, 20, MIN, MAX}) {
            due("sender " + sender, x.item(1, 1, 1, 1, sender), OUTSIDE);
        }
        due("refused ones take no number", x.item(1, 1, 1, 1, 1), 3);
    }

    private static void itemRoom() {
        part = "2 item room";
        ClaimRows x = new ClaimRows();
        for (int number = 1; number <= 100; number++) {
            due("item", x.item(0, 1, 1, 1, 1), number);
        }
        due("101st", x.item(0, 1, 1, 1, 1), ROOM);
        due("OUTSIDE before ROOM", x.item(4, 1, 1, 1, 1), OUTSIDE);
        due("the last is known", x.pass(100, 0, true), 1);
        due("no 101st", x.pass(101, 0, true), UNKNOWN);
    }

    // ---- promise 3

    private static void pass() {
        part = "3 pass";
        ClaimRows x = withItem();
        x.item(0, 1, 1, 1, 1);
        for (int item : new int[] {0, -1, 3, MIN, MAX}) {
            due("item " + item, x.pass(item, 9, true), UNKNOWN);
        }
        for (int post : new int[] {-1, 6, MIN, MAX}) {
            due("post " + post, x.pass(1, post, true), OUTSIDE);
        }
        for (int count = 1; count <= 8; count++) {
            due("pass", x.pass(1, count % 6, count % 2 == 0), count);
        }
        due("9th", x.pass(1, 0, true), ROOM);
        due("OUTSIDE before ROOM", x.pass(1, 6, true), OUTSIDE);
        due("each item has its own", x.pass(2, 5, true), 1);
    }

    // ---- promise 4

    private static void table() {
        part = "4 table";
        ClaimRows x = new ClaimRows();
        due("least", x.table(0, 0, 0, 0), 1);
        due("most", x.table(3, 3, 10000000, 10000), 1);
        for (int number : new int[] {-1, 4, MIN, MAX}) {
            due("service " + number, x.table(number, 0, 1, 1), OUTSIDE);
            due("kind " + number, x.table(0, number, 1, 1), OUTSIDE);
        }
        for (long most : new long[] {-1, 10000001, Long.MIN_VALUE, Long.MAX_VALUE, 1L << 32}) {
            due("most " + most, x.table(0, 0, most, 1), OUTSIDE);
        }
        for (int days : new int[] {-1, 10001, MIN, MAX}) {
            due("days " + days, x.table(0, 0, 1, days), OUTSIDE);
        }
        x.item(0, 100, 0, 0, 0);
        due("refused rows set no days", x.claim(1, 0, 0, 1), TIME);
        x.claim(1, 0, 0, 0);
        due("refused rows set no most", x.sum(1), 0);
    }

    private static void tableRowsAreApart() {
        part = "4 table rows";
        ClaimRows x = new ClaimRows();
        for (int service = 0; service < 4; service++) {
            x.item(service, 10000000, 0, 0, 0);
            for (int kind = 0; kind < 4; kind++) {
                x.table(service, kind, 1000 * (10 * service + kind + 1), 10 * service + kind);
            }
        }
        long[] parts = {1, 10, 2, 1};
        for (int service = 0; service < 4; service++) {
            for (int kind = 0; kind < 4; kind++) {
                int days = 10 * service + kind;
                due("late by a day", x.claim(service + 1, kind, 0, days + 1), TIME);
                int claim = x.claim(service + 1, kind, 0, days);
                due("in time", claim, service * 4 + kind + 1);
                due("sum", x.sum(claim), 1000L * (days + 1) / parts[kind]);
            }
        }
    }

    // ---- promise 5

    private static void claimNumbersAndWrongInputs() {
        part = "5 claim";
        ClaimRows x = withItem();
        for (int item : new int[] {0, -1, 2, MIN, MAX}) {
            due("item " + item, x.claim(item, 9, 9, -1), UNKNOWN);
        }
        for (int kind : new int[] {-1, 4, MIN, MAX}) {
            due("kind " + kind, x.claim(1, kind, 0, 10), OUTSIDE);
        }
        for (int who : new int[] {-1, 3, MIN, MAX}) {
            due("who " + who, x.claim(1, 0, who, 10), OUTSIDE);
        }
        for (int day : new int[] {-1, 200001, MIN, MAX}) {
            due("day " + day, x.claim(1, 0, 0, day), OUTSIDE);
        }
        due("the last day is no wrong number", x.claim(1, 0, 0, 200000), TIME);
        due("no letter yet", x.all(3), 0);
        due("first", x.claim(1, 3, 0, 15), 1);
        due("second", x.claim(1, 1, 0, 15), 2);
        due("state", x.about(2, 0), 0);
        due("item", x.about(2, 1), 1);
        due("kind", x.about(2, 2), 1);
        due("letters", x.all(3), 2);
    }

    private static void claimWho() {
        part = "5 claim who";
        ClaimRows x = withItem();
        x.item(0, 1000, 0, 10, 2);
        for (int kind = 0; kind < 4; kind++) {
            due("a third, kind " + kind, x.claim(1, kind, 2, 10), WHO);
        }
        due("lost, by who gets it", x.claim(1, 0, 1, 10), WHO);
        due("emptied, by who gets it", x.claim(1, 3, 1, 10), WHO);
        due("late, by who gets it", x.claim(1, 1, 1, 10), 1);
        due("damaged, by who gets it", x.claim(1, 2, 1, 10), 2);
        for (int kind = 0; kind < 4; kind++) {
            due("the sender, kind " + kind, x.claim(2, kind, 0, 10), 3 + kind);
        }
    }

    private static void claimTime() {
        part = "5 claim time";
        ClaimRows x = withItem();
        due("a day late", x.claim(1, 0, 0, 16), TIME);
        due("the last day", x.claim(1, 0, 0, 15), 1);
        due("before the item's day is not behind its time", x.claim(1, 1, 0, 0), 2);
        x.item(2, 1, 1, 7, 0);
        due("no row: a day late", x.claim(2, 0, 0, 8), TIME);
        due("no row: the same day", x.claim(2, 0, 0, 7), 3);
        x.item(3, 1, 1, 100000, 0);
        x.table(3, 0, 1, 10000);
        due("the latest of all, a day late", x.claim(3, 0, 0, 110001), TIME);
        due("the latest of all", x.claim(3, 0, 0, 110000), 4);
        x.tick(200000);
        due("the clock does not count", x.claim(1, 2, 0, 15), 5);
    }

    private static void claimState() {
        part = "5 claim state";
        ClaimRows x = withJudge();
        x.item(0, 1, 0, 10, 0);
        due("first", x.claim(1, 0, 0, 0), 1);
        due("there is an open one", x.claim(1, 0, 0, 0), STATE);
        due("another kind", x.claim(1, 2, 0, 0), 2);
        due("another item", x.claim(2, 0, 0, 0), 3);
        x.proof(1, 0);
        x.answer(x.search(1, 0, 0), true);
        x.decide(1, 0);
        due("the first is refused", x.claim(1, 0, 0, 0), 4);
        x.proof(4, 0);
        x.answer(x.search(4, 0, 0), false);
        due("paid", x.decide(4, 0), 1);
        due("there is a paid one", x.claim(1, 0, 0, 0), STATE);
        x.found(1);
        x.back(4, true);
        due("asked back, it is paid still", x.claim(1, 0, 0, 0), STATE);
    }

    private static void claimRoom() {
        part = "5 claim room";
        ClaimRows x = new ClaimRows();
        for (int item = 1; item <= 16; item++) {
            x.item(0, 1, 1, 0, 0);
        }
        for (int number = 1; number <= 60; number++) {
            due("claim", x.claim((number + 3) / 4, number % 4, 0, 0), number);
        }
        due("61st", x.claim(16, 0, 0, 0), ROOM);
        due("STATE before ROOM", x.claim(1, 1, 0, 0), STATE);
        due("TIME before ROOM", x.claim(16, 0, 0, 1), TIME);
        due("the last is known", x.about(60, 1), 15);
        due("no 61st", x.about(61, 1), UNKNOWN);
        due("no letter for it", x.all(3), 60);
    }

    private static void claimRefusalOrder() {
        part = "5 claim order";
        ClaimRows x = withItem();
        x.claim(1, 0, 0, 10);
        due("UNKNOWN first", x.claim(2, 4, 3, -1), UNKNOWN);
        due("OUTSIDE before WHO", x.claim(1, 0, 1, 200001), OUTSIDE);
        due("WHO before TIME", x.claim(1, 0, 1, 16), WHO);
        due("TIME before STATE", x.claim(1, 0, 0, 16), TIME);
        due("STATE", x.claim(1, 0, 0, 15), STATE);
    }

    // ---- promise 6

    private static void proof() {
        part = "6 proof";
        int[][] needed = {{0}, {0, 1}, {0, 2}, {0, 2, 3}};
        int[][] others = {{1, 2, 3}, {2, 3}, {1, 3}, {1}};
        ClaimRows x = withItem();
        for (int kind = 0; kind < 4; kind++) {
            int claim = x.claim(1, kind, 0, 10);
            int lacks = needed[kind].length;
            due("lacks at first, kind " + kind, x.about(claim, 3), lacks);
            for (int proof : others[kind]) {
                due("not needed", x.proof(claim, proof), STATE);
            }
            for (int i = needed[kind].length - 1; i >= 0; i--) {
                lacks--;
                due("comes", x.proof(claim, needed[kind][i]), lacks);
                due("came already", x.proof(claim, needed[kind][i]), STATE);
                due("lacks, kind " + kind, x.about(claim, 3), lacks);
            }
        }
        for (int claim : new int[] {0, -1, 5, MIN, MAX}) {
            due("claim " + claim, x.proof(claim, 4), UNKNOWN);
        }
        for (int proof : new int[] {-1, 4, 32, 33, MIN, MAX}) {
            due("proof " + proof, x.proof(4, proof), OUTSIDE);
        }
        due("letters: 4 came, 0 + 1 + 1 + 2 lack", x.all(3), 8);
    }

    private static void proofOfClosedClaim() {
        part = "6 proof of a closed claim";
        ClaimRows x = withJudge();
        int claim = decidedLost(x, 1, true);
        due("refused", x.proof(claim, 0), STATE);
        due("OUTSIDE before STATE", x.proof(claim, 4), OUTSIDE);
        x.appeal(claim);
        due("it has the proof behind the appeal too", x.proof(claim, 0), STATE);
        due("lacks none", x.about(claim, 3), 0);
    }

    // ---- promise 7

    private static void search() {
        part = "7 search";
        ClaimRows x = withJudge();
        x.item(0, 1, 0, 10, 0);
        x.claim(1, 0, 0, 10);
        x.claim(1, 1, 0, 10);
        for (int claim : new int[] {0, -1, 3, MIN, MAX}) {
            due("claim " + claim, x.search(claim, 50, -1), UNKNOWN);
        }
        for (int place : new int[] {-1, 50, MIN, MAX}) {
            due("place " + place, x.search(1, place, 0), OUTSIDE);
        }
        x.tick(7);
        for (int day : new int[] {6, -1, 200001, MIN, MAX}) {
            due("due " + day, x.search(1, 0, day), OUTSIDE);
        }
        due("OUTSIDE before STATE", x.search(2, 50, 7), OUTSIDE);
        due("not of kind 0", x.search(2, 0, 7), STATE);
        due("due on the clock's day", x.search(1, 0, 7), 1);
        due("last place, last day", x.search(1, 49, 200000), 2);
        due("the same again", x.search(1, 49, 200000), 3);
        due("unanswered", x.about(1, 4), 3);
        int paid = decidedLost(x, 2, false);
        due("paid", x.search(paid, 0, 7), STATE);
        x.item(0, 1, 0, 10, 0);
        int refused = decidedLost(x, 3, true);
        due("refused", x.search(refused, 0, 7), STATE);
        x.appeal(refused);
        due("open again", x.search(refused, 0, 7), 6);
    }

    private static void searchRoom() {
        part = "7 search room";
        ClaimRows x = withItem();
        x.claim(1, 0, 0, 10);
        x.claim(1, 1, 0, 10);
        for (int number = 1; number <= 100; number++) {
            due("search", x.search(1, number % 50, number), number);
        }
        due("101st", x.search(1, 0, 0), ROOM);
        due("STATE before ROOM", x.search(2, 0, 0), STATE);
        due("unanswered", x.about(1, 4), 100);
        due("the last is known", x.answer(100, false), 1);
        due("no 101st", x.answer(101, false), UNKNOWN);
        due("all but the answered one", x.tick(200000), 99);
    }

    // ---- promise 8

    private static void answer() {
        part = "8 answer";
        ClaimRows x = withItem();
        x.claim(1, 0, 0, 10);
        x.search(1, 3, 5);
        x.search(1, 4, 6);
        x.search(1, 5, 7);
        for (int search : new int[] {0, -1, 4, MIN, MAX}) {
            due("search " + search, x.answer(search, true), UNKNOWN);
        }
        due("not whole", x.answer(2, false), 1);
        due("answered", x.answer(2, true), STATE);
        due("unanswered", x.about(1, 4), 2);
        due("whole", x.answer(3, true), 1);
        due("answered", x.answer(3, false), STATE);
        x.tick(6);
        due("lost there", x.answer(1, true), STATE);
        due("unanswered", x.about(1, 4), 0);
        x.proof(1, 0);
        due("one found it whole", x.decide(1, 0), 2);
    }

    // ---- promise 9

    private static void tick() {
        part = "9 tick";
        ClaimRows x = withItem();
        x.claim(1, 0, 0, 10);
        x.search(1, 0, 0);
        x.search(1, 0, 4);
        x.search(1, 0, 5);
        x.search(1, 0, 5);
        x.search(1, 0, 6);
        x.answer(3, false);
        for (int day : new int[] {-1, 200001, MIN, MAX}) {
            due("day " + day, x.tick(day), OUTSIDE);
        }
        due("nothing is due before 0", x.tick(0), 0);
        due("due before 5", x.tick(5), 2);
        due("again", x.tick(5), 0);
        due("backwards", x.tick(4), OUTSIDE);
        due("unanswered", x.about(1, 4), 2);
        due("an answered one is not lost", x.tick(6), 1);
        due("the last day", x.tick(200000), 1);
        due("unanswered", x.about(1, 4), 0);
        due("the clock stands", x.tick(199999), OUTSIDE);
        due("the last day again", x.tick(200000), 0);
        x.proof(1, 0);
        x.limit(0, 300);
        due("lost there counts as not whole", x.decide(1, 0), 1);
    }

    // ---- promise 10

    private static void sum() {
        part = "10 sum";
        long[][] rows = {
            // value, insured, the row's most, and the sums of lost, late, damaged, emptied
            {1000, 0, 300, 300, 30, 150, 300},
            {299, 0, 300, 299, 29, 149, 299},
            {1000, 500, 300, 500, 50, 250, 500},
            {1000, 5000, 300, 1000, 100, 500, 1000},
            {1000, 1, 300, 1, 0, 0, 1},
            {0, 700, 300, 0, 0, 0, 0},
            {1000, 0, 0, 0, 0, 0, 0},
            {10000000, 10000000, 0, 10000000, 1000000, 5000000, 10000000},
        };
        for (long[] row : rows) {
            ClaimRows x = new ClaimRows();
            x.item(2, row[0], row[1], 0, 0);
            for (int kind = 0; kind < 4; kind++) {
                x.table(2, kind, row[2], 0);
                x.claim(1, kind, 0, 0);
                due("value " + row[0] + " insured " + row[1] + " kind " + kind, x.sum(kind + 1), row[3 + kind]);
            }
            for (int claim : new int[] {0, -1, 5, MIN, MAX}) {
                due("claim " + claim, x.sum(claim), UNKNOWN);
            }
        }
    }

    private static void sumFollowsTheTableUntilPaid() {
        part = "10 sum by the table";
        ClaimRows x = withJudge();
        x.item(0, 1000, 0, 10, 2);
        int paid = readyLost(x, 1, false);
        int refused = decidedLost(x, 2, true);
        due("at first", x.sum(paid), 300);
        x.table(0, 0, 400, 5);
        due("by the row as it is now", x.sum(paid), 400);
        due("pays the sum as it is then", x.decide(paid, 0), 1);
        x.table(0, 0, 500, 5);
        due("what was paid", x.sum(paid), 400);
        due("of a refused one by the row", x.sum(refused), 500);
        due("paid in all", x.all(0), 400);
    }

    // ---- promise 11

    private static void limit() {
        part = "11 limit";
        ClaimRows x = withItem();
        due("least", x.limit(0, 0), 1);
        due("most", x.limit(9, 10000000), 1);
        for (int person : new int[] {-1, 10, MIN, MAX}) {
            due("person " + person, x.limit(person, 1), OUTSIDE);
        }
        for (long cents : new long[] {-1, 10000001, Long.MIN_VALUE, Long.MAX_VALUE, 1L << 32}) {
            due("cents " + cents, x.limit(0, cents), OUTSIDE);
        }
        int claim = readyLost(x, 1, false);
        for (int person = 0; person < 9; person++) {
            due("limit 0 of person " + person, x.decide(claim, person), LIMIT);
        }
        x.limit(4, 1000);
        x.limit(4, 299);
        due("the newest limit counts", x.decide(claim, 4), LIMIT);
        due("person 9", x.decide(claim, 9), 1);
    }

    // ---- promise 12

    private static void decide() {
        part = "12 decide";
        ClaimRows x = withItem();
        x.claim(1, 3, 0, 10);
        for (int claim : new int[] {0, -1, 2, MIN, MAX}) {
            due("claim " + claim, x.decide(claim, 10), UNKNOWN);
        }
        for (int person : new int[] {-1, 10, MIN, MAX}) {
            due("person " + person, x.decide(1, person), OUTSIDE);
        }
        due("no proof", x.decide(1, 0), STATE);
        x.proof(1, 0);
        x.proof(1, 2);
        due("a proof lacks", x.decide(1, 0), STATE);
        x.proof(1, 3);
        due("the limit is 0", x.decide(1, 0), LIMIT);
        x.limit(0, 299);
        due("above the limit", x.decide(1, 0), LIMIT);
        due("open still", x.about(1, 0), 0);
        x.limit(0, 300);
        due("at the limit, without a search", x.decide(1, 0), 1);
        due("paid", x.about(1, 0), 1);
        due("not open", x.decide(1, 0), STATE);
        due("OUTSIDE before STATE", x.decide(1, 10), OUTSIDE);
        x.table(0, 1, 9, 5);
        x.claim(1, 1, 0, 10);
        giveProofs(x, 2);
        due("a sum of 0 is within the limit 0", x.decide(2, 7), 1);
        due("paid 0", x.paid(1, 1), true);
    }

    private static void decideLost() {
        part = "12 decide lost";
        ClaimRows x = withJudge();
        x.claim(1, 0, 0, 10);
        x.proof(1, 0);
        due("no search", x.decide(1, 0), STATE);
        x.search(1, 0, 5);
        x.search(1, 1, 6);
        due("unanswered", x.decide(1, 0), STATE);
        x.answer(1, false);
        due("one is unanswered", x.decide(1, 0), STATE);
        x.tick(6);
        due("due today is unanswered still", x.decide(1, 0), STATE);
        x.tick(7);
        due("lost there", x.decide(1, 0), 1);
        x.item(0, 1, 0, 10, 0);
        x.claim(2, 0, 0, 10);
        x.answer(x.search(2, 0, 7), false);
        due("searched, but the proof lacks", x.decide(2, 0), STATE);
    }

    private static void decideRefusesBeforeTheLimit() {
        part = "12 decide refused";
        ClaimRows x = withItem();
        x.claim(1, 0, 0, 10);
        x.proof(1, 0);
        x.search(1, 0, 5);
        x.search(1, 1, 5);
        x.answer(1, true);
        due("one is unanswered", x.decide(1, 0), STATE);
        x.answer(2, false);
        due("whole at one place, whatever the limit", x.decide(1, 0), 2);
        due("refused", x.about(1, 0), 2);
        due("not open", x.decide(1, 0), STATE);
        due("nothing is paid", x.all(0), 0);
    }

    // ---- promise 13

    private static void dueShares(ClaimRows x, int claim, long... want) {
        for (int post = 0; post < want.length; post++) {
            due("share of post " + post, x.share(claim, post), want[post]);
        }
    }

    private static void share() {
        part = "13 share";
        ClaimRows x = withJudge();
        x.table(0, 0, 302, 5);
        x.pass(1, 0, true);
        x.pass(1, 3, true);
        x.pass(1, 5, false);
        x.pass(1, 1, false);
        int claim = readyLost(x, 1, false);
        dueShares(x, claim, 0, 0, 0, 0, 0, 0);
        x.decide(claim, 0);
        dueShares(x, claim, 0, 100, 0, 101, 0, 101);
        for (int number : new int[] {0, -1, 2, MIN, MAX}) {
            due("claim " + number, x.share(number, 6), UNKNOWN);
        }
        for (int post : new int[] {-1, 6, MIN, MAX}) {
            due("post " + post, x.share(claim, post), OUTSIDE);
        }
        x.found(1);
        x.back(claim, true);
        dueShares(x, claim, 0, 100, 0, 101, 0, 101);
        x.item(0, 1000, 0, 10, 2);
        x.pass(2, 4, true);
        int refused = decidedLost(x, 2, true);
        dueShares(x, refused, 0, 0, 0, 0, 0, 0);
        due("OUTSIDE of an unpaid one", x.share(refused, 6), OUTSIDE);
    }

    private static void shareFollowsThePosts() {
        part = "13 share by now";
        ClaimRows x = withJudge();
        x.table(0, 0, 11, 5);
        int claim = decidedLost(x, 1, false);
        dueShares(x, claim, 0, 0, 0, 0, 0, 0);
        x.pass(1, 2, false);
        dueShares(x, claim, 0, 0, 11, 0, 0, 0);
        x.pass(1, 4, false);
        dueShares(x, claim, 0, 0, 6, 0, 5, 0);
        x.pass(1, 2, false);
        dueShares(x, claim, 0, 0, 4 + 3, 0, 4, 0);
        x.pass(1, 1, true);
        dueShares(x, claim, 0, 11, 0, 0, 0, 0);
        x.pass(1, 1, false);
        dueShares(x, claim, 0, 6 + 5, 0, 0, 0, 0);
        x.pass(1, 0, false);
        dueShares(x, claim, 3, 4 + 4, 0, 0, 0, 0);
    }

    private static void shareOfManyPosts() {
        part = "13 share of eight";
        ClaimRows x = withJudge();
        x.table(0, 0, 4, 5);
        for (int i = 0; i < 8; i++) {
            x.pass(1, i % 6, i == 0);
        }
        int claim = decidedLost(x, 1, false);
        dueShares(x, claim, 1, 1, 1, 1, 0, 0);
        x.item(0, 7, 0, 10, 0);
        x.table(0, 0, 100, 5);
        for (int i = 0; i < 8; i++) {
            x.pass(2, i % 6, false);
        }
        int second = decidedLost(x, 2, false);
        dueShares(x, second, 2, 1, 1, 1, 1, 1);
    }

    // ---- promise 14

    private static void found() {
        part = "14 found";
        ClaimRows x = withJudge();
        x.item(0, 1000, 0, 10, 2);
        x.item(0, 1000, 0, 10, 2);
        for (int item : new int[] {0, -1, 4, MIN, MAX}) {
            due("item " + item, x.found(item), UNKNOWN);
        }
        due("no claim", x.found(1), STATE);
        int damaged = x.claim(1, 2, 0, 10);
        giveProofs(x, damaged);
        due("damaged is paid", x.decide(damaged, 0), 1);
        due("none of kind 0", x.found(1), STATE);
        int refused = decidedLost(x, 1, true);
        due("refused", x.found(1), STATE);
        int open = readyLost(x, 1, false);
        due("open", x.found(1), STATE);
        x.decide(open, 0);
        due("the claim that was paid", x.found(1), open);
        due("found already", x.found(1), STATE);
        due("another item", x.found(2), STATE);
        due("the refused one", x.about(refused, 0), 2);
        int third = decidedLost(x, 3, false);
        due("the third item's", x.found(3), third);
    }

    // ---- promise 15

    private static void back() {
        part = "15 back";
        ClaimRows x = withJudge();
        x.item(0, 50, 0, 10, 2);
        int asked = decidedLost(x, 1, false);
        int kept = decidedLost(x, 2, false);
        for (int claim : new int[] {0, -1, 3, MIN, MAX}) {
            due("claim " + claim, x.back(claim, true), UNKNOWN);
        }
        due("not found", x.back(asked, true), STATE);
        x.found(1);
        due("the other is not found", x.back(kept, false), STATE);
        long letters = x.all(3);
        due("asked back", x.back(asked, true), 1);
        due("a letter", x.all(3), letters + 1);
        due("said already", x.back(asked, true), STATE);
        due("said already", x.back(asked, false), STATE);
        due("recovered", x.all(1), 300);
        x.found(2);
        due("kept", x.back(kept, false), 1);
        due("said already", x.back(kept, true), STATE);
        due("recovered", x.all(1), 300);
        due("no letter of a kept one", x.all(3), letters + 1);
        due("paid in all stays", x.all(0), 350);
        due("its sum stays", x.sum(asked), 300);
        due("it stays paid", x.about(asked, 0), 1);
    }

    private static void backOfOtherClaims() {
        part = "15 back of others";
        ClaimRows x = withJudge();
        int damaged = x.claim(1, 2, 0, 10);
        giveProofs(x, damaged);
        x.decide(damaged, 0);
        int refused = decidedLost(x, 1, true);
        int paid = decidedLost(x, 1, false);
        x.found(1);
        due("of another kind", x.back(damaged, true), STATE);
        due("refused", x.back(refused, true), STATE);
        due("the one that was paid for the loss", x.back(paid, true), 1);
        due("recovered", x.all(1), 300);
    }

    // ---- promise 16

    private static void appeal() {
        part = "16 appeal";
        ClaimRows x = withJudge();
        int claim = readyLost(x, 1, true);
        for (int number : new int[] {0, -1, 2, MIN, MAX}) {
            due("claim " + number, x.appeal(number), UNKNOWN);
        }
        due("open", x.appeal(claim), STATE);
        x.decide(claim, 0);
        due("refused", x.appeal(claim), 1);
        due("open again", x.about(claim, 0), 0);
        due("its searches do not count", x.decide(claim, 0), STATE);
        due("appealed already", x.appeal(claim), STATE);
        due("an old search is answered still", x.answer(1, false), STATE);
        int again = x.search(claim, 2, 9);
        due("unanswered", x.about(claim, 4), 1);
        due("unanswered", x.decide(claim, 0), STATE);
        x.answer(again, true);
        due("refused again", x.decide(claim, 0), 2);
        due("once only", x.appeal(claim), STATE);
        due("refused each time", x.all(2), 2);
        x.item(0, 1, 0, 10, 0);
        int second = decidedLost(x, 2, true);
        x.appeal(second);
        x.answer(x.search(second, 2, 9), false);
        due("paid behind the appeal", x.decide(second, 0), 1);
        due("paid", x.appeal(second), STATE);
    }

    private static void appealBesideAnother() {
        part = "16 appeal beside another";
        ClaimRows x = withJudge();
        int first = decidedLost(x, 1, true);
        int second = readyLost(x, 1, true);
        int late = x.claim(1, 1, 0, 10);
        due("the second is open", x.appeal(first), STATE);
        x.decide(second, 0);
        due("the late one is of another kind", x.appeal(first), 1);
        due("the first is open", x.appeal(second), STATE);
        due("the first is there", x.claim(1, 0, 0, 10), STATE);
        x.answer(x.search(first, 0, 0), false);
        x.decide(first, 0);
        due("the first is paid", x.appeal(second), STATE);
        due("late is open", x.about(late, 0), 0);
        x.item(0, 1, 0, 10, 0);
        int other = decidedLost(x, 2, true);
        due("another item's do not matter", x.appeal(other), 1);
    }

    // ---- promise 17

    private static void paid() {
        part = "17 paid";
        ClaimRows x = withJudge();
        x.item(0, 1000, 0, 10, 2);
        due("no claim", x.paid(1, 0), false);
        int claim = readyLost(x, 1, false);
        due("open", x.paid(1, 0), false);
        x.decide(claim, 0);
        due("paid", x.paid(1, 0), true);
        due("another kind", x.paid(1, 1), false);
        due("another item", x.paid(2, 0), false);
        decidedLost(x, 2, true);
        due("refused", x.paid(2, 0), false);
        decidedLost(x, 2, false);
        due("a second claim is paid", x.paid(2, 0), true);
        x.found(1);
        x.back(claim, true);
        due("it was paid for", x.paid(1, 0), true);
        for (int wrongOne : new int[] {-1, 4, MIN, MAX}) {
            due("kind " + wrongOne, x.paid(1, wrongOne), false);
            due("item " + wrongOne, x.paid(wrongOne, 0), false);
        }
        due("item 0", x.paid(0, 0), false);
        int emptied = x.claim(1, 3, 0, 10);
        giveProofs(x, emptied);
        x.decide(emptied, 0);
        due("emptied", x.paid(1, 3), true);
        due("damaged", x.paid(1, 2), false);
    }

    // ---- promise 18

    private static void about() {
        part = "18 about";
        ClaimRows x = withJudge();
        x.item(0, 1, 0, 10, 2);
        x.item(0, 1, 0, 10, 5);
        x.claim(1, 0, 0, 10);
        x.claim(3, 3, 0, 10);
        x.claim(2, 2, 1, 10);
        x.claim(3, 1, 0, 10);
        x.claim(1, 1, 0, 10);
        int[][] want = {{0, 1, 0, 1, 0, 0}, {0, 3, 3, 3, 0, 0}, {0, 2, 2, 2, 0, 1}, {0, 3, 1, 2, 0, 1}, {0, 1, 1, 2, 0, 2}};
        for (int claim = 1; claim <= 5; claim++) {
            for (int what = 0; what < 6; what++) {
                due("claim " + claim + " what " + what, x.about(claim, what), want[claim - 1][what]);
            }
        }
        for (int what : new int[] {-1, 6, MIN, MAX}) {
            due("what " + what, x.about(1, what), OUTSIDE);
            due("UNKNOWN before OUTSIDE", x.about(6, what), UNKNOWN);
        }
        for (int claim : new int[] {0, -1, 6, MIN, MAX}) {
            due("claim " + claim, x.about(claim, 0), UNKNOWN);
        }
        x.search(1, 0, 3);
        x.search(1, 0, 4);
        due("unanswered", x.about(1, 4), 2);
        due("of another claim", x.about(2, 4), 0);
        x.answer(2, true);
        due("unanswered", x.about(1, 4), 1);
        x.tick(4);
        due("unanswered", x.about(1, 4), 0);
        x.proof(1, 0);
        x.decide(1, 0);
        due("refused", x.about(1, 0), 2);
        due("a refused one counts", x.about(x.claim(1, 0, 0, 10), 5), 3);
    }

    // ---- promise 19

    private static void dueLetter(ClaimRows x, int i, int claim, int kind) {
        due("letter " + i + " claim", x.letter(i, 0), claim);
        due("letter " + i + " kind", x.letter(i, 1), kind);
    }

    private static void letter() {
        part = "19 letter";
        ClaimRows x = withJudge();
        int emptied = x.claim(1, 3, 0, 10);
        x.proof(emptied, 3);
        int lost = decidedLost(x, 1, true);
        x.proof(emptied, 0);
        x.proof(emptied, 2);
        x.appeal(lost);
        x.answer(x.search(lost, 0, 0), false);
        x.decide(lost, 0);
        x.found(1);
        x.back(lost, true);
        int[][] want = {{1, 1}, {1, 2}, {2, 1}, {2, 4}, {1, 2}, {2, 6}, {2, 3}, {2, 5}};
        for (int i = 0; i < want.length; i++) {
            dueLetter(x, i, want[i][0], want[i][1]);
        }
        for (int i : new int[] {-1, want.length, 199, 200, MIN, MAX}) {
            dueLetter(x, i, -1, -1);
        }
        for (int what : new int[] {-1, 2, MIN, MAX}) {
            due("what " + what, x.letter(0, what), -1);
        }
        due("in all", x.all(3), want.length);
        x.claim(1, 3, 0, 10);
        x.proof(emptied, 0);
        x.decide(emptied, 11);
        x.back(lost, true);
        x.appeal(lost);
        due("refused calls send none", x.all(3), want.length);
    }

    private static void lettersBeyondTheKept() {
        part = "19 letters beyond 200";
        ClaimRows x = new ClaimRows();
        for (int item = 1; item <= 60; item++) {
            x.item(0, 1, 1, 0, 0);
            int claim = x.claim(item, 3, 0, 0);
            x.proof(claim, 0);
            x.proof(claim, 2);
            x.proof(claim, 3);
        }
        due("in all", x.all(3), 180);
        x.limit(0, 1);
        for (int claim = 1; claim <= 19; claim++) {
            x.decide(claim, 0);
        }
        due("in all", x.all(3), 199);
        dueLetter(x, 198, 19, 3);
        dueLetter(x, 199, -1, -1);
        for (int claim = 20; claim <= 60; claim++) {
            due("paid all the same", x.decide(claim, 0), 1);
        }
        due("in all", x.all(3), 240);
        dueLetter(x, 0, 1, 1);
        dueLetter(x, 179, 60, 2);
        dueLetter(x, 180, 1, 3);
        dueLetter(x, 199, 20, 3);
        dueLetter(x, 200, -1, -1);
        dueLetter(x, 239, -1, -1);
    }

    // ---- promise 20

    private static void all() {
        part = "20 all";
        ClaimRows x = withJudge();
        x.item(0, 40, 0, 10, 2);
        for (int what : new int[] {-1, 4, MIN, MAX}) {
            due("what " + what, x.all(what), OUTSIDE);
        }
        int first = decidedLost(x, 1, false);
        decidedLost(x, 2, true);
        int second = decidedLost(x, 2, false);
        due("paid", x.all(0), 340);
        due("recovered", x.all(1), 0);
        due("refused", x.all(2), 1);
        due("letters", x.all(3), 6);
        x.found(1);
        due("found alone recovers nothing", x.all(1), 0);
        x.back(first, true);
        x.found(2);
        x.back(second, true);
        due("paid", x.all(0), 340);
        due("recovered", x.all(1), 340);
        due("refused", x.all(2), 1);
        due("letters", x.all(3), 8);
    }

    private static void objectsAreApart() {
        part = "objects apart";
        ClaimRows x = withJudge();
        ClaimRows y = new ClaimRows();
        decidedLost(x, 1, false);
        x.tick(9);
        due("items", y.item(0, 1, 0, 0, 0), 1);
        due("table", y.claim(1, 0, 0, 1), TIME);
        due("claims", y.claim(1, 0, 0, 0), 1);
        due("clock", y.search(1, 0, 0), 1);
        due("paid", y.all(0), 0);
        due("letters", y.all(3), 1);
    }

    /** The example of README.md, call by call: who changes one changes the other. */
    private static void readmeExample() {
        part = "README";
        ClaimRows rows = new ClaimRows();
        due("table", rows.table(0, 0, 300, 5), 1);
        int item = rows.item(0, 1000, 0, 10, 2);
        due("item", item, 1);
        due("pass", rows.pass(item, 3, true), 1);
        int claim = rows.claim(item, 0, 0, 12);
        due("claim", claim, 1);
        due("proof", rows.proof(claim, 0), 0);
        int search = rows.search(claim, 4, 20);
        due("search", search, 1);
        due("answer", rows.answer(search, true), 1);
        due("limit", rows.limit(0, 500), 1);
        due("decide", rows.decide(claim, 0), 2);
        due("appeal", rows.appeal(claim), 1);
        due("search again", rows.search(claim, 5, 25), 2);
        due("tick", rows.tick(26), 1);
        due("decide again", rows.decide(claim, 0), 1);
        due("sum", rows.sum(claim), 300);
        due("share", rows.share(claim, 3), 300);
        due("found", rows.found(item), 1);
        due("back", rows.back(claim, true), 1);
        due("all", rows.all(1), 300);
    }
}
