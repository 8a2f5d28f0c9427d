/**
 * Claims for a post's items that were lost, came late, damaged or emptied.
 * The document (DOC.md) says what each call promises. No call throws: what is refused is answered
 * by one of the constants, and changes nothing.
 */
public final class ClaimRows {
    public static final int UNKNOWN = -101, OUTSIDE = -102, STATE = -103, ROOM = -104, WHO = -105, TIME = -106, LIMIT = -107;

    private static final int MOST_ITEMS = 100, MOST_CLAIMS = 60, MOST_SEARCHES = 100, MOST_PASSED = 8, KEPT_LETTERS = 200;
    private static final int SERVICES = 4, KINDS = 4, PROOFS = 4, POSTS = 6, PERSONS = 10, SENDERS = 20, PLACES = 50;
    private static final int LAST_ITEM_DAY = 100000, LAST_DAY = 200000, MOST_DAYS = 10000;
    private static final long MOST_CENTS = 10000000L;

    private static final int LOST = 0, LATE = 1, DAMAGED = 2;
    private static final int BY_SENDER = 0, BY_RECEIVER = 1, LAST_WHO = 2;
    private static final int OPEN = 0, PAID = 1, REFUSED = 2;
    private static final int LETTER_CAME = 1, LETTER_LACKS = 2, LETTER_PAID = 3, LETTER_REFUSED = 4, LETTER_BACK = 5, LETTER_APPEALED = 6;

    /** The proofs that each kind needs, proof p as the bit 1 << p. */
    private static final int[] NEEDED = {0b0001, 0b0011, 0b0101, 0b1101};

    private final Item[] items = new Item[MOST_ITEMS];
    private int itemCount;
    private final Claim[] claims = new Claim[MOST_CLAIMS];
    private int claimCount;
    private final Search[] searches = new Search[MOST_SEARCHES];
    private int searchCount;
    private final long[] tableMost = new long[SERVICES * KINDS];
    private final int[] tableDays = new int[SERVICES * KINDS];
    private final long[] limits = new long[PERSONS];
    private final int[] letterClaims = new int[KEPT_LETTERS];
    private final int[] letterKinds = new int[KEPT_LETTERS];
    private int letterCount;
    private int clock;
    private long paidInAll;
    private long recoveredInAll;
    private int refusedInAll;

    public ClaimRows() {
    }

    public int item(int service, long value, long insured, int day, int sender) {
        if (!isBelow(service, SERVICES) || !areCents(value) || !areCents(insured)) {
            return OUTSIDE;
        }
        if (!isWithin(day, 0, LAST_ITEM_DAY) || !isBelow(sender, SENDERS)) {
            return OUTSIDE;
        }
        if (itemCount >= MOST_ITEMS) {
            return ROOM;
        }
        items[itemCount] = new Item(service, value, insured, day, sender);
        itemCount++;
        return itemCount;
    }

    public int pass(int item, int post, boolean whole) {
        Item passing = itemNumbered(item);
        if (passing == null) {
            return UNKNOWN;
        }
        if (!isBelow(post, POSTS)) {
            return OUTSIDE;
        }
        if (passing.passed >= MOST_PASSED) {
            return ROOM;
        }
        passing.addPost(post, whole);
        return passing.passed;
    }

    public int table(int service, int kind, long most, int days) {
        if (!isBelow(service, SERVICES) || !isBelow(kind, KINDS)) {
            return OUTSIDE;
        }
        if (!areCents(most) || !isWithin(days, 0, MOST_DAYS)) {
            return OUTSIDE;
        }
        int row = rowOf(service, kind);
        tableMost[row] = most;
        tableDays[row] = days;
        return 1;
    }

    public int claim(int item, int kind, int who, int day) {
        Item claimed = itemNumbered(item);
        if (claimed == null) {
            return UNKNOWN;
        }
        if (!isBelow(kind, KINDS) || !isWithin(who, 0, LAST_WHO) || !isWithin(day, 0, LAST_DAY)) {
            return OUTSIDE;
        }
        if (!mayClaim(kind, who)) {
            return WHO;
        }
        if (day > claimed.day + tableDays[rowOf(claimed.service, kind)]) {
            return TIME;
        }
        if (standingClaim(item, kind) != null) {
            return STATE;
        }
        if (claimCount >= MOST_CLAIMS) {
            return ROOM;
        }
        int earlier = claimsOfSender(claimed.sender);
        claims[claimCount] = new Claim(claimCount + 1, item, claimed, kind, earlier);
        claimCount++;
        send(claimCount, LETTER_CAME);
        return claimCount;
    }

    public int proof(int claim, int proof) {
        Claim row = claimNumbered(claim);
        if (row == null) {
            return UNKNOWN;
        }
        if (!isBelow(proof, PROOFS)) {
            return OUTSIDE;
        }
        int bit = 1 << proof;
        if (row.state != OPEN || (row.lacking & bit) == 0) {
            return STATE;
        }
        row.lacking &= ~bit;
        int lacks = Integer.bitCount(row.lacking);
        if (lacks > 0) {
            send(claim, LETTER_LACKS);
        }
        return lacks;
    }

    public int search(int claim, int place, int due) {
        Claim row = claimNumbered(claim);
        if (row == null) {
            return UNKNOWN;
        }
        if (!isBelow(place, PLACES) || !isWithin(due, clock, LAST_DAY)) {
            return OUTSIDE;
        }
        if (row.state != OPEN || row.kind != LOST) {
            return STATE;
        }
        if (searchCount >= MOST_SEARCHES) {
            return ROOM;
        }
        searches[searchCount] = new Search(row, due);
        searchCount++;
        row.addSearch();
        return searchCount;
    }

    public int answer(int search, boolean whole) {
        Search asked = searchNumbered(search);
        if (asked == null) {
            return UNKNOWN;
        }
        if (!asked.unanswered) {
            return STATE;
        }
        asked.close(whole);
        return 1;
    }

    public int tick(int day) {
        if (!isWithin(day, clock, LAST_DAY)) {
            return OUTSIDE;
        }
        clock = day;
        int lost = 0;
        for (int number = 1; number <= searchCount; number++) {
            Search asked = searchNumbered(number);
            if (asked != null && asked.unanswered && asked.due < day) {
                asked.close(false);
                lost++;
            }
        }
        return lost;
    }

    public long sum(int claim) {
        Claim row = claimNumbered(claim);
        if (row == null) {
            return UNKNOWN;
        }
        return row.state == PAID ? row.paidSum : sumByTable(row);
    }

    public int limit(int person, long cents) {
        if (!isBelow(person, PERSONS) || !areCents(cents)) {
            return OUTSIDE;
        }
        limits[person] = cents;
        return 1;
    }

    public int decide(int claim, int person) {
        Claim row = claimNumbered(claim);
        if (row == null) {
            return UNKNOWN;
        }
        if (!isBelow(person, PERSONS)) {
            return OUTSIDE;
        }
        if (!row.isReady()) {
            return STATE;
        }
        if (row.seenWhole) {
            return refuse(row);
        }
        long sum = sumByTable(row);
        if (sum > limits[person]) {
            return LIMIT;
        }
        return pay(row, sum);
    }

    public long share(int claim, int post) {
        Claim row = claimNumbered(claim);
        if (row == null) {
            return UNKNOWN;
        }
        if (!isBelow(post, POSTS)) {
            return OUTSIDE;
        }
        return row.state == PAID ? row.item.partOf(row.paidSum, post) : 0L;
    }

    public int found(int item) {
        Item lost = itemNumbered(item);
        if (lost == null) {
            return UNKNOWN;
        }
        Claim row = standingClaim(item, LOST);
        if (row == null || row.state != PAID || lost.isFound) {
            return STATE;
        }
        lost.isFound = true;
        return row.number;
    }

    public int back(int claim, boolean asks) {
        Claim row = claimNumbered(claim);
        if (row == null) {
            return UNKNOWN;
        }
        // The item may have other claims than the one that was paid for its loss: those stay.
        if (row.kind != LOST || row.state != PAID || !row.item.isFound || row.backSaid) {
            return STATE;
        }
        row.backSaid = true;
        if (asks) {
            recoveredInAll += row.paidSum;
            send(claim, LETTER_BACK);
        }
        return 1;
    }

    public int appeal(int claim) {
        Claim row = claimNumbered(claim);
        if (row == null) {
            return UNKNOWN;
        }
        if (row.state != REFUSED || row.appealed || standingClaim(row.itemNumber, row.kind) != null) {
            return STATE;
        }
        row.reopen();
        send(claim, LETTER_APPEALED);
        return 1;
    }

    public boolean paid(int item, int kind) {
        Claim row = standingClaim(item, kind);
        return row != null && row.state == PAID;
    }

    public int about(int claim, int what) {
        Claim row = claimNumbered(claim);
        if (row == null) {
            return UNKNOWN;
        }
        switch (what) {
            case 0:
                return row.state;
            case 1:
                return row.itemNumber;
            case 2:
                return row.kind;
            case 3:
                return Integer.bitCount(row.lacking);
            case 4:
                return row.unanswered;
            case 5:
                return row.earlier;
            default:
                return OUTSIDE;
        }
    }

    public int letter(int i, int what) {
        if (!isBelow(i, Math.min(letterCount, KEPT_LETTERS))) {
            return -1;
        }
        switch (what) {
            case 0:
                return letterClaims[i];
            case 1:
                return letterKinds[i];
            default:
                return -1;
        }
    }

    public long all(int what) {
        switch (what) {
            case 0:
                return paidInAll;
            case 1:
                return recoveredInAll;
            case 2:
                return refusedInAll;
            case 3:
                return letterCount;
            default:
                return OUTSIDE;
        }
    }

    private static boolean isWithin(long number, long least, long most) {
        return number >= least && number <= most;
    }

    private static boolean isBelow(int number, int end) {
        return number >= 0 && number < end;
    }

    private static boolean areCents(long cents) {
        return isWithin(cents, 0L, MOST_CENTS);
    }

    private static int rowOf(int service, int kind) {
        return service * KINDS + kind;
    }

    private static boolean mayClaim(int kind, int who) {
        if (who == BY_SENDER) {
            return true;
        }
        return who == BY_RECEIVER && (kind == LATE || kind == DAMAGED);
    }

    private Item itemNumbered(int number) {
        return isWithin(number, 1, itemCount) ? items[number - 1] : null;
    }

    private Claim claimNumbered(int number) {
        return isWithin(number, 1, claimCount) ? claims[number - 1] : null;
    }

    private Search searchNumbered(int number) {
        return isWithin(number, 1, searchCount) ? searches[number - 1] : null;
    }

    /** The one claim of an item and a kind that is not refused, or null. */
    private Claim standingClaim(int item, int kind) {
        for (int number = 1; number <= claimCount; number++) {
            Claim row = claimNumbered(number);
            if (row != null && row.itemNumber == item && row.kind == kind && row.state != REFUSED) {
                return row;
            }
        }
        return null;
    }

    private int claimsOfSender(int sender) {
        int count = 0;
        for (int number = 1; number <= claimCount; number++) {
            Claim row = claimNumbered(number);
            if (row != null && row.item.sender == sender) {
                count++;
            }
        }
        return count;
    }

    private long sumByTable(Claim row) {
        Item item = row.item;
        long most = item.insured > 0 ? item.insured : tableMost[rowOf(item.service, row.kind)];
        long base = Math.min(item.value, most);
        switch (row.kind) {
            case LATE:
                return base / 10;
            case DAMAGED:
                return base / 2;
            default:
                return base;
        }
    }

    private int refuse(Claim row) {
        row.state = REFUSED;
        refusedInAll++;
        send(row.number, LETTER_REFUSED);
        return REFUSED;
    }

    private int pay(Claim row, long sum) {
        row.state = PAID;
        row.paidSum = sum;
        paidInAll += sum;
        send(row.number, LETTER_PAID);
        return PAID;
    }

    private void send(int claim, int kind) {
        if (letterCount < KEPT_LETTERS) {
            letterClaims[letterCount] = claim;
            letterKinds[letterCount] = kind;
        }
        letterCount++;
    }

    private static final class Item {
        final int service;
        final long value;
        final long insured;
        final int day;
        final int sender;
        final int[] posts = new int[MOST_PASSED];
        int passed;
        /** Where the posts begin that share: the last one where it was whole, or the first of all. */
        int sharesFrom;
        boolean isFound;

        Item(int service, long value, long insured, int day, int sender) {
            this.service = service;
            this.value = value;
            this.insured = insured;
            this.day = day;
            this.sender = sender;
        }

        void addPost(int post, boolean whole) {
            if (passed >= MOST_PASSED) {
                return;
            }
            posts[passed] = post;
            if (whole) {
                sharesFrom = passed;
            }
            passed++;
        }

        long partOf(long sum, int post) {
            int sharers = passed - sharesFrom;
            if (sharers <= 0) {
                return 0L;
            }
            long each = sum / sharers;
            long leftOver = sum % sharers;
            long part = 0L;
            for (int i = 0; i < sharers; i++) {
                if (posts[sharesFrom + i] == post) {
                    part += i < leftOver ? each + 1 : each;
                }
            }
            return part;
        }
    }

    private static final class Claim {
        final int number;
        final int itemNumber;
        final Item item;
        final int kind;
        /** How many claims its item's sender's items had before it. */
        final int earlier;
        int state = OPEN;
        /** The proofs that it lacks, as bits like NEEDED. */
        int lacking;
        /** Its searches that count: those since it was made, or since its appeal. */
        int searched;
        int unanswered;
        boolean seenWhole;
        boolean appealed;
        boolean backSaid;
        long paidSum;

        Claim(int number, int itemNumber, Item item, int kind, int earlier) {
            this.number = number;
            this.itemNumber = itemNumber;
            this.item = item;
            this.kind = kind;
            this.earlier = earlier;
            this.lacking = isBelow(kind, NEEDED.length) ? NEEDED[kind] : 0;
        }

        void addSearch() {
            searched++;
            unanswered++;
        }

        void endSearch(boolean whole) {
            unanswered--;
            if (whole) {
                seenWhole = true;
            }
        }

        boolean isReady() {
            if (state != OPEN || lacking != 0) {
                return false;
            }
            return kind != LOST || (searched > 0 && unanswered == 0);
        }

        void reopen() {
            state = OPEN;
            appealed = true;
            // A refused claim has no unanswered search, so that count needs no change.
            searched = 0;
            seenWhole = false;
        }
    }

    private static final class Search {
        final Claim claim;
        final int due;
        boolean unanswered = true;

        Search(Claim claim, int due) {
            this.claim = claim;
            this.due = due;
        }

        void close(boolean whole) {
            unanswered = false;
            claim.endSearch(whole);
        }
    }
}
