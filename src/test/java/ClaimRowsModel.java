import java.util.ArrayList;
import java.util.List;
import java.util.Random;

/**
 * Runs of 512 calls, made by fixed seeds, on a ClaimRows and on a model that keeps only what happened and
 * works out every answer anew. The last calls of a run only ask, so that a refused call that changed something
 * is seen, and no object is used for more calls than the document promises.
 */
public final class ClaimRowsModel {
    private static final int RUNS = 2000, CALLS = 512;

    public static void main(String[] args) {
        int[] answered = new int[19];
        int[] refusals = new int[8];
        for (int seed = 1; seed <= RUNS; seed++) {
            String fault = new Run(seed).fault(answered, refusals);
            if (fault != null) {
                System.out.println("seed " + seed + ": " + fault);
                System.exit(1);
            }
        }
        for (int call = 0; call < answered.length; call++) {
            if (answered[call] == 0) {
                System.out.println("the runs never reach an answer of call " + call);
                System.exit(1);
            }
        }
        for (int refusal = 1; refusal <= 7; refusal++) {
            if (refusals[refusal] == 0) {
                System.out.println("the runs never reach the refusal " + (-100 - refusal));
                System.exit(1);
            }
        }
        System.out.println(RUNS + " runs are as the model says");
    }

    /** One run: calls by chance, mostly near to what may be answered. */
    private static final class Run {
        /** Calls by their places in the document's face, 0 item to 18 all: those to be made often, and those that only ask. */
        static final int[] OFTEN = {0, 3, 3, 3, 4, 4, 4, 5, 5, 6, 6, 10, 10, 10, 14, 14}, ASKING = {8, 11, 15, 16, 17, 18};
        final Random chance;
        final ClaimRows rows = new ClaimRows();
        final Model model = new Model();
        /** What the run leans to, so that the runs differ: many items, many claims, or few. */
        final int lean;
        String said;

        Run(int seed) {
            chance = new Random(seed);
            lean = seed % 4;
        }

        String fault(int[] answered, int[] refusals) {
            int asksFrom = 200 + chance.nextInt(CALLS - 200);
            for (int i = 0; i < CALLS; i++) {
                int call = i < asksFrom ? nextCall() : ASKING[chance.nextInt(ASKING.length)];
                long want = play(call);
                if (said != null) {
                    return "call " + i + ": " + said;
                }
                if (want < -100) {
                    refusals[(int) (-100 - want)]++;
                } else {
                    answered[call]++;
                }
            }
            return null;
        }

        int nextCall() {
            if (lean == 1 && chance.nextInt(3) == 0) {
                return chance.nextBoolean() ? 0 : 3;
            }
            return chance.nextInt(2) == 0 ? chance.nextInt(19) : OFTEN[chance.nextInt(OFTEN.length)];
        }

        /** A number from 0 to most, now and then one outside. */
        int upTo(int most) {
            int kind = chance.nextInt(60);
            if (kind == 0) return -1;
            if (kind == 1) return most + 1;
            if (kind == 2) return chance.nextBoolean() ? Integer.MIN_VALUE : Integer.MAX_VALUE;
            return chance.nextInt(most + 1);
        }

        /** The number of something that there is, mostly; of the newest ones more often. */
        int numberOf(int count) {
            if (count == 0 || chance.nextInt(40) == 0) return upTo(count + 1);
            if (chance.nextInt(2) == 0) return Math.max(1, count - chance.nextInt(4));
            return 1 + chance.nextInt(count);
        }

        long cents() {
            switch (chance.nextInt(12)) {
                case 0: return 0;
                case 1: return 10000000;
                case 2: return chance.nextInt(4) == 0 ? 10000001 : 9;
                case 3: return chance.nextInt(4) == 0 ? Long.MIN_VALUE : 1;
                default: return chance.nextInt(1000);
            }
        }

        int itemNumber() {
            return lean == 0 ? Math.min(numberOf(model.items.size()), 3) : numberOf(model.items.size());
        }

        int claimNumber() {
            return numberOf(model.claims.size());
        }

        long play(int call) {
            int a;
            int b;
            boolean yes = chance.nextInt(3) == 0;
            switch (call) {
                case 0: {
                    int service = upTo(3), day = upTo(30), sender = upTo(19);
                    long value = cents(), insured = chance.nextBoolean() ? 0 : cents();
                    return same("item", rows.item(service, value, insured, day, sender), model.item(service, value, insured, day, sender));
                }
                case 1: a = itemNumber(); b = upTo(5);
                    return same("pass", rows.pass(a, b, yes), model.pass(a, b, yes));
                case 2: {
                    int service = upTo(3), kind = upTo(3), days = upTo(10);
                    long most = cents();
                    return same("table", rows.table(service, kind, most, days), model.table(service, kind, most, days));
                }
                case 3: {
                    int item = itemNumber(), kind = chance.nextBoolean() ? 0 : upTo(3), who = yes ? upTo(2) : 0, day = upTo(32);
                    return same("claim", rows.claim(item, kind, who, day), model.claim(item, kind, who, day));
                }
                case 4: a = claimNumber(); b = yes ? upTo(3) : 0;
                    return same("proof", rows.proof(a, b), model.proof(a, b));
                case 5: {
                    int claim = claimNumber(), place = upTo(49), due = model.clock + upTo(4);
                    return same("search", rows.search(claim, place, due), model.search(claim, place, due));
                }
                case 6: a = numberOf(model.searches.size());
                    return same("answer", rows.answer(a, yes), model.answer(a, yes));
                case 7: a = chance.nextInt(60) == 0 ? 200001 : model.clock + upTo(3);
                    return same("tick", rows.tick(a), model.tick(a));
                case 9: a = upTo(9);
                    long cents = cents();
                    return same("limit", rows.limit(a, cents), model.limit(a, cents));
                case 10: a = claimNumber(); b = upTo(9);
                    return same("decide", rows.decide(a, b), model.decide(a, b));
                case 12: a = itemNumber();
                    return same("found", rows.found(a), model.found(a));
                case 13: a = claimNumber();
                    return same("back", rows.back(a, yes), model.back(a, yes));
                case 14: a = claimNumber();
                    return same("appeal", rows.appeal(a), model.appeal(a));
                default: return ask(call);
            }
        }

        long ask(int call) {
            int a = claimNumber();
            int b = upTo(5);
            switch (call) {
                case 8: return same("sum", rows.sum(a), model.sum(a));
                case 11: return same("share", rows.share(a, b), model.share(a, b));
                case 15: a = itemNumber();
                    return same("paid", rows.paid(a, b) ? 1 : 0, model.paid(a, b) ? 1 : 0);
                case 16: return same("about", rows.about(a, b), model.about(a, b));
                case 17: a = upTo(250); b = upTo(1);
                    return same("letter", rows.letter(a, b), model.letter(a, b));
                default: return same("all", rows.all(b), model.all(b));
            }
        }

        long same(String call, long got, long want) {
            if (got != want) {
                said = call + " answered " + got + ", due is " + want;
            }
            return want;
        }
    }

    private record Item(int service, long value, long insured, int day, int sender, List<int[]> passes) { }

    private static final class Claim {
        int item, kind, state, appeals;
        boolean[] has = new boolean[4];
        long sum;
        boolean said;
    }

    private static final class Search {
        int claim, due, appeals;
        /** 0 unanswered, 1 whole, 2 not whole, 3 lost there. */
        int told;
    }

    /** The document, in the slowest form. */
    private static final class Model {
        static final int UNKNOWN = -101, OUTSIDE = -102, STATE = -103, ROOM = -104, WHO = -105, TIME = -106, LIMIT = -107;
        static final boolean[][] NEEDS = {
            {true, false, false, false}, {true, true, false, false}, {true, false, true, false}, {true, false, true, true}};
        final List<Item> items = new ArrayList<>();
        final List<Claim> claims = new ArrayList<>();
        final List<Search> searches = new ArrayList<>();
        final List<int[]> letters = new ArrayList<>();
        final List<Integer> foundItems = new ArrayList<>();
        final long[][] most = new long[4][4];
        final int[][] days = new int[4][4];
        final long[] limits = new long[10];
        long recovered;
        int clock, refused;

        static boolean out(long number, long least, long greatest) {
            return number < least || number > greatest;
        }

        static boolean none(int number, List<?> list) {
            return number < 1 || number > list.size();
        }

        int item(int service, long value, long insured, int day, int sender) {
            if (out(service, 0, 3) || out(value, 0, 10000000) || out(insured, 0, 10000000)) return OUTSIDE;
            if (out(day, 0, 100000) || out(sender, 0, 19)) return OUTSIDE;
            if (items.size() == 100) return ROOM;
            items.add(new Item(service, value, insured, day, sender, new ArrayList<>()));
            return items.size();
        }

        int pass(int item, int post, boolean whole) {
            if (none(item, items)) return UNKNOWN;
            if (out(post, 0, 5)) return OUTSIDE;
            List<int[]> passes = items.get(item - 1).passes();
            if (passes.size() == 8) return ROOM;
            passes.add(new int[] {post, whole ? 1 : 0});
            return passes.size();
        }

        int table(int service, int kind, long cents, int time) {
            if (out(service, 0, 3) || out(kind, 0, 3) || out(cents, 0, 10000000) || out(time, 0, 10000)) return OUTSIDE;
            most[service][kind] = cents;
            days[service][kind] = time;
            return 1;
        }

        boolean another(int item, int kind) {
            return claims.stream().anyMatch(c -> c.item == item && c.kind == kind && c.state != 2);
        }

        int claim(int item, int kind, int who, int day) {
            if (none(item, items)) return UNKNOWN;
            if (out(kind, 0, 3) || out(who, 0, 2) || out(day, 0, 200000)) return OUTSIDE;
            if (who == 2 || who == 1 && (kind == 0 || kind == 3)) return WHO;
            Item of = items.get(item - 1);
            if (day - of.day() > days[of.service()][kind]) return TIME;
            if (another(item, kind)) return STATE;
            if (claims.size() == 60) return ROOM;
            Claim claim = new Claim();
            claim.item = item;
            claim.kind = kind;
            claims.add(claim);
            letters.add(new int[] {claims.size(), 1});
            return claims.size();
        }

        int lacks(Claim claim) {
            int lacks = 0;
            for (int proof = 0; proof < 4; proof++) {
                if (NEEDS[claim.kind][proof] && !claim.has[proof]) lacks++;
            }
            return lacks;
        }

        int proof(int number, int proof) {
            if (none(number, claims)) return UNKNOWN;
            if (out(proof, 0, 3)) return OUTSIDE;
            Claim claim = claims.get(number - 1);
            if (claim.state != 0 || !NEEDS[claim.kind][proof] || claim.has[proof]) return STATE;
            claim.has[proof] = true;
            if (lacks(claim) > 0) letters.add(new int[] {number, 2});
            return lacks(claim);
        }

        int search(int number, int place, int due) {
            if (none(number, claims)) return UNKNOWN;
            if (out(place, 0, 49) || out(due, clock, 200000)) return OUTSIDE;
            Claim claim = claims.get(number - 1);
            if (claim.state != 0 || claim.kind != 0) return STATE;
            if (searches.size() == 100) return ROOM;
            Search search = new Search();
            search.claim = number;
            search.due = due;
            search.appeals = claim.appeals;
            searches.add(search);
            return searches.size();
        }

        int answer(int number, boolean whole) {
            if (none(number, searches)) return UNKNOWN;
            Search search = searches.get(number - 1);
            if (search.told != 0) return STATE;
            search.told = whole ? 1 : 2;
            return 1;
        }

        int tick(int day) {
            if (out(day, clock, 200000)) return OUTSIDE;
            clock = day;
            int lost = 0;
            for (Search search : searches) {
                if (search.told == 0 && search.due < clock) {
                    search.told = 3;
                    lost++;
                }
            }
            return lost;
        }

        long sum(int number) {
            if (none(number, claims)) return UNKNOWN;
            Claim claim = claims.get(number - 1);
            if (claim.state == 1) return claim.sum;
            Item of = items.get(claim.item - 1);
            long other = of.insured() != 0 ? of.insured() : most[of.service()][claim.kind];
            long base = of.value() < other ? of.value() : other;
            return claim.kind == 1 ? base / 10 : claim.kind == 2 ? base / 2 : base;
        }

        int limit(int person, long cents) {
            if (out(person, 0, 9) || out(cents, 0, 10000000)) return OUTSIDE;
            limits[person] = cents;
            return 1;
        }

        long counting(int number, int told) {
            int appeals = claims.get(number - 1).appeals;
            return searches.stream().filter(s -> s.claim == number && s.appeals == appeals && s.told == told).count();
        }

        int decide(int number, int person) {
            if (none(number, claims)) return UNKNOWN;
            if (out(person, 0, 9)) return OUTSIDE;
            Claim claim = claims.get(number - 1);
            if (claim.state != 0 || lacks(claim) > 0) return STATE;
            if (claim.kind == 0 && (counting(number, 0) > 0
                || counting(number, 1) + counting(number, 2) + counting(number, 3) == 0)) return STATE;
            if (counting(number, 1) > 0) {
                claim.state = 2;
                refused++;
                letters.add(new int[] {number, 4});
                return 2;
            }
            if (sum(number) > limits[person]) return LIMIT;
            claim.sum = sum(number);
            claim.state = 1;
            letters.add(new int[] {number, 3});
            return 1;
        }

        long share(int number, int post) {
            if (none(number, claims)) return UNKNOWN;
            if (out(post, 0, 5)) return OUTSIDE;
            Claim claim = claims.get(number - 1);
            List<int[]> passes = items.get(claim.item - 1).passes();
            if (claim.state != 1 || passes.isEmpty()) return 0;
            int first = passes.size() - 1;
            while (first > 0 && passes.get(first)[1] == 0) first--;
            if (passes.get(first)[1] == 0) first = 0;
            long sharers = passes.size() - first;
            long each = claim.sum / sharers;
            long share = 0;
            for (int i = 0; i < sharers; i++) {
                boolean oneMore = i < claim.sum - each * sharers;
                if (passes.get(first + i)[0] == post) share += oneMore ? each + 1 : each;
            }
            return share;
        }

        int found(int item) {
            if (none(item, items)) return UNKNOWN;
            if (foundItems.contains(item)) return STATE;
            for (int number = 1; number <= claims.size(); number++) {
                Claim claim = claims.get(number - 1);
                if (claim.item == item && claim.kind == 0 && claim.state == 1) {
                    foundItems.add(item);
                    return number;
                }
            }
            return STATE;
        }

        int back(int number, boolean asks) {
            if (none(number, claims)) return UNKNOWN;
            Claim claim = claims.get(number - 1);
            if (!foundItems.contains(claim.item) || claim.kind != 0 || claim.state != 1 || claim.said) return STATE;
            claim.said = true;
            if (asks) {
                recovered += claim.sum;
                letters.add(new int[] {number, 5});
            }
            return 1;
        }

        int appeal(int number) {
            if (none(number, claims)) return UNKNOWN;
            Claim claim = claims.get(number - 1);
            if (claim.state != 2 || claim.appeals > 0 || another(claim.item, claim.kind)) return STATE;
            claim.state = 0;
            claim.appeals++;
            letters.add(new int[] {number, 6});
            return 1;
        }

        boolean paid(int item, int kind) {
            return claims.stream().anyMatch(c -> c.item == item && c.kind == kind && c.state == 1);
        }

        int about(int number, int what) {
            if (none(number, claims)) return UNKNOWN;
            Claim claim = claims.get(number - 1);
            switch (what) {
                case 0: return claim.state;
                case 1: return claim.item;
                case 2: return claim.kind;
                case 3: return lacks(claim);
                case 4: return (int) searches.stream().filter(s -> s.claim == number && s.told == 0).count();
                case 5:
                    int sender = items.get(claim.item - 1).sender();
                    return (int) claims.subList(0, number - 1).stream().filter(c -> items.get(c.item - 1).sender() == sender).count();
                default: return OUTSIDE;
            }
        }

        int letter(int i, int what) {
            if (i < 0 || i >= letters.size() || i >= 200 || what < 0 || what > 1) return -1;
            return letters.get(i)[what];
        }

        long all(int what) {
            switch (what) {
                case 0: return claims.stream().filter(c -> c.state == 1).mapToLong(c -> c.sum).sum();
                case 1: return recovered;
                case 2: return refused;
                case 3: return letters.size();
                default: return OUTSIDE;
            }
        }
    }
}
