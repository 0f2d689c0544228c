/** A book of wrestlers rated by bouts. */
public final class WrestleBook {
    private static final int LEAGUES = 3;
    private static final int MOST_WRESTLERS = 12;
    private static final int LOWEST_RATING = 100;
    private static final int HIGHEST_RATING = 3000;
    private static final int MIDDLE_RATING = 1000;
    private static final int LOSS = 0;
    private static final int WIN = 2;
    private static final int UPSET_BELOW = 400;
    private static final int MOST_WINS = 9;
    private static final int MOST_FORESEEN = 40;
    private static final int COUNTS = 9;
    private static final int TOLD = 9;
    private static final int NONE = -1;

    private final Roster roster = new Roster();
    // foresee() holds its bouts here, so that nothing in the book changes.
    private final Roster trial = new Roster();
    private final int[] chances = new int[MOST_WINS + 1];
    private int season;
    private int boutsHeld;
    private int upsets;

    public WrestleBook() {
    }

    // ---- wrestlers and bouts

    public int join(int league) throws IllegalArgumentException, IllegalStateException {
        if (!isLeague(league)) {
            throw new IllegalArgumentException("no such league");
        }
        if (roster.isFull()) {
            throw new IllegalStateException("the book is full");
        }
        return roster.add(league);
    }

    public int rate(int wrestler, int rating)
            throws IndexOutOfBoundsException, IllegalArgumentException {
        checkWrestler(wrestler);
        if (rating < LOWEST_RATING || rating > HIGHEST_RATING) {
            throw new IllegalArgumentException("no such rating");
        }
        int before = roster.rating(wrestler);
        roster.setRating(wrestler, rating);
        return before;
    }

    public int bout(int a, int b, int result)
            throws IndexOutOfBoundsException, IllegalArgumentException {
        checkWrestler(a);
        checkWrestler(b);
        checkDifferent(a, b);
        checkResult(result);
        if (roster.isUpset(a, b, result)) {
            upsets++;
        }
        boutsHeld++;
        return roster.hold(a, b, result);
    }

    public int end() {
        roster.drift();
        int up = 0;
        for (int league = 0; league < LEAGUES - 1; league++) {
            if (roster.exchange(league)) {
                up++;
            }
        }
        roster.clearSeason();
        season++;
        return up;
    }

    // ---- what there is

    public int expected(int a, int b) throws IndexOutOfBoundsException {
        checkWrestler(a);
        checkWrestler(b);
        return roster.expectation(a, b);
    }

    public int told(int wrestler, int what) throws IndexOutOfBoundsException {
        checkWrestler(wrestler);
        switch (what) {
            case 0:
                return roster.rating(wrestler);
            case 1:
                return roster.league(wrestler);
            case 2:
                return roster.points(wrestler);
            case 3:
                return roster.bouts(wrestler);
            case 4:
                return roster.seasonBouts(wrestler);
            case 5:
                return roster.winRow(wrestler);
            case 6:
                return roster.best(wrestler);
            case 7:
                return roster.place(wrestler);
            case 8:
                return roster.weight(wrestler);
            default:
                throw new IndexOutOfBoundsException("nothing such is told");
        }
    }

    public int at(int league, int place) throws IndexOutOfBoundsException {
        if (!isLeague(league)) {
            throw new IndexOutOfBoundsException("no such league");
        }
        int wrestler = roster.standingAt(league, place);
        if (wrestler == NONE) {
            throw new IndexOutOfBoundsException("no such place");
        }
        return wrestler;
    }

    public int count(int what) throws IndexOutOfBoundsException {
        switch (what) {
            case 0:
                return season;
            case 1:
                return roster.size();
            case 2:
                return boutsHeld;
            case 3:
                return upsets;
            case 4:
            case 5:
            case 6:
                return roster.sizeOf(what - 4);
            case 7:
                return roster.highest();
            case 8:
                return roster.lowest();
            default:
                throw new IndexOutOfBoundsException("nothing such is counted");
        }
    }

    // ---- what would be

    public int would(int a, int b, int result, int whose)
            throws IndexOutOfBoundsException, IllegalArgumentException {
        checkWrestler(a);
        checkWrestler(b);
        if (whose != 0 && whose != 1) {
            throw new IndexOutOfBoundsException("neither of a nor of b");
        }
        checkDifferent(a, b);
        checkResult(result);
        return whose == 0 ? roster.gain(a, b, result) : roster.gain(b, a, WIN - result);
    }

    public int chance(int a, int b, int wins)
            throws IndexOutOfBoundsException, IllegalArgumentException {
        checkWrestler(a);
        checkWrestler(b);
        checkDifferent(a, b);
        if (wins < 1 || wins > MOST_WINS) {
            throw new IllegalArgumentException("no such number of wins");
        }
        return chanceOfRow(roster.expectation(a, b), wins);
    }

    public int match(int wrestler) throws IndexOutOfBoundsException {
        checkWrestler(wrestler);
        return roster.evenest(wrestler);
    }

    public int next() {
        return roster.bestPair();
    }

    public int foresee(int bouts) throws IllegalArgumentException {
        if (bouts < 1 || bouts > MOST_FORESEEN) {
            throw new IllegalArgumentException("no such number of bouts");
        }
        trial.copyFrom(roster);
        for (int i = 0; i < bouts; i++) {
            int pair = trial.bestPair();
            if (pair == NONE) {
                break;
            }
            trial.holdAsRated(pair / MOST_WRESTLERS, pair % MOST_WRESTLERS);
        }
        return trial.highest();
    }

    public double mean() {
        int wrestlers = roster.size();
        return wrestlers == 0 ? 0.0 : (double) roster.sumOfRatings() / wrestlers;
    }

    public long digest() {
        long d = 1637;
        for (int what = 0; what < COUNTS; what++) {
            d = d * 31 + count(what);
        }
        for (int wrestler = 0; wrestler < roster.size(); wrestler++) {
            for (int what = 0; what < TOLD; what++) {
                d = d * 31 + told(wrestler, what);
            }
        }
        return d * 31 + next();
    }

    private void checkWrestler(int wrestler) {
        if (!roster.has(wrestler)) {
            throw new IndexOutOfBoundsException("no such wrestler");
        }
    }

    private static void checkDifferent(int a, int b) {
        if (a == b) {
            throw new IllegalArgumentException("both are the same");
        }
    }

    private static void checkResult(int result) {
        if (result < LOSS || result > WIN) {
            throw new IllegalArgumentException("no such result");
        }
    }

    private static boolean isLeague(int league) {
        return league >= 0 && league < LEAGUES;
    }

    // Behind step i, chances[j] is f(i, j) of the document: a step needs no
    // more than the one before it, so that one row serves for all of them.
    private int chanceOfRow(int expected, int wins) {
        for (int j = 0; j <= wins; j++) {
            chances[j] = 1000000;
        }
        for (int i = 1; i <= wins; i++) {
            chances[0] = 0;
            for (int j = 1; j <= wins; j++) {
                chances[j] = (expected * chances[j] + (1000 - expected) * chances[j - 1]) / 1000;
            }
        }
        return chances[wins];
    }

    /**
     * The wrestlers and how they stand. Whoever calls with a wrestler's number
     * has asked has() for it, or has it from the roster itself.
     */
    private static final class Roster {
        private static final int[] EXPECTED = {500, 640, 760, 849, 909, 947, 969, 983, 990};
        private static final int EXPECTED_STEP = 100;
        private static final int MOST_DIFFERENCE = 800;
        private static final int FIRST_BOUTS = 10;
        private static final int MASTER_RATING = 2000;
        private static final int RESTED_BELOW = 3;

        private final int[] leagues = new int[MOST_WRESTLERS];
        private final int[] ratings = new int[MOST_WRESTLERS];
        private final int[] points = new int[MOST_WRESTLERS];
        private final int[] bouts = new int[MOST_WRESTLERS];
        private final int[] seasonBouts = new int[MOST_WRESTLERS];
        private final int[] winRows = new int[MOST_WRESTLERS];
        private final int[] bests = new int[MOST_WRESTLERS];
        private int size;

        int size() {
            return size;
        }

        boolean isFull() {
            return size >= MOST_WRESTLERS;
        }

        boolean has(int who) {
            return who >= 0 && who < size;
        }

        int rating(int who) {
            return ratings[who];
        }

        int league(int who) {
            return leagues[who];
        }

        int points(int who) {
            return points[who];
        }

        int bouts(int who) {
            return bouts[who];
        }

        int seasonBouts(int who) {
            return seasonBouts[who];
        }

        int winRow(int who) {
            return winRows[who];
        }

        int best(int who) {
            return bests[who];
        }

        /** Adds one, where isFull() has been asked, and returns the number. */
        int add(int league) {
            int who = size;
            leagues[who] = league;
            ratings[who] = MIDDLE_RATING;
            bests[who] = MIDDLE_RATING;
            size++;
            return who;
        }

        void setRating(int who, int rating) {
            ratings[who] = rating;
            bests[who] = Math.max(bests[who], rating);
        }

        void copyFrom(Roster other) {
            size = other.size;
            for (int who = 0; who < size; who++) {
                leagues[who] = other.leagues[who];
                ratings[who] = other.ratings[who];
                points[who] = other.points[who];
                bouts[who] = other.bouts[who];
                seasonBouts[who] = other.seasonBouts[who];
                winRows[who] = other.winRows[who];
                bests[who] = other.bests[who];
            }
        }

        /** What is expected of a against b, in thousandths. */
        int expectation(int a, int b) {
            if (ratings[a] < ratings[b]) {
                return 1000 - expectedOfHigher(ratings[b] - ratings[a]);
            }
            return expectedOfHigher(ratings[a] - ratings[b]);
        }

        private static int expectedOfHigher(int difference) {
            int d = Math.min(difference, MOST_DIFFERENCE);
            int step = d / EXPECTED_STEP;
            if (d == MOST_DIFFERENCE) {
                return EXPECTED[step];
            }
            int more = EXPECTED[step + 1] - EXPECTED[step];
            return EXPECTED[step] + more * (d % EXPECTED_STEP) / EXPECTED_STEP;
        }

        int weight(int who) {
            if (bouts[who] < FIRST_BOUTS) {
                return 40;
            }
            return ratings[who] >= MASTER_RATING ? 10 : 20;
        }

        /** By how much a bout of such a result for who changes this rating. */
        int gain(int who, int other, int result) {
            int score = result * 500;
            int rating = ratings[who] + weight(who) * (score - expectation(who, other)) / 1000;
            int kept = Math.max(LOWEST_RATING, Math.min(HIGHEST_RATING, rating));
            return kept - ratings[who];
        }

        boolean isUpset(int a, int b, int result) {
            return result == WIN && expectation(a, b) < UPSET_BELOW
                || result == LOSS && expectation(b, a) < UPSET_BELOW;
        }

        /** Holds a bout, and returns by how much it changes the rating of a. */
        int hold(int a, int b, int result) {
            // Both are found ahead of the bout: each hangs on the other's rating.
            int gainOfA = gain(a, b, result);
            int gainOfB = gain(b, a, WIN - result);
            enter(a, gainOfA, result);
            enter(b, gainOfB, WIN - result);
            return gainOfA;
        }

        void holdAsRated(int first, int second) {
            hold(first, second, ratings[first] >= ratings[second] ? WIN : LOSS);
        }

        // A result is as many points as it brings: 2 for a win, 1 if even.
        private void enter(int who, int gain, int result) {
            setRating(who, ratings[who] + gain);
            points[who] += result;
            bouts[who]++;
            seasonBouts[who]++;
            winRows[who] = result == WIN ? winRows[who] + 1 : 0;
        }

        void drift() {
            for (int who = 0; who < size; who++) {
                if (seasonBouts[who] < RESTED_BELOW) {
                    setRating(who, ratings[who] - (ratings[who] - MIDDLE_RATING) / 8);
                }
            }
        }

        /** Tells whether the last one of a league and the first one below changed places. */
        boolean exchange(int league) {
            int last = standingAt(league, sizeOf(league));
            int first = standingAt(league + 1, 1);
            if (last == NONE || first == NONE || points[first] <= points[last]) {
                return false;
            }
            leagues[last] = league + 1;
            leagues[first] = league;
            return true;
        }

        void clearSeason() {
            for (int who = 0; who < size; who++) {
                points[who] = 0;
                seasonBouts[who] = 0;
            }
        }

        int sizeOf(int league) {
            int wrestlers = 0;
            for (int who = 0; who < size; who++) {
                if (leagues[who] == league) {
                    wrestlers++;
                }
            }
            return wrestlers;
        }

        int place(int who) {
            int place = 1;
            for (int other = 0; other < size; other++) {
                if (leagues[other] == leagues[who] && isAhead(other, who)) {
                    place++;
                }
            }
            return place;
        }

        private boolean isAhead(int a, int b) {
            if (points[a] != points[b]) {
                return points[a] > points[b];
            }
            if (ratings[a] != ratings[b]) {
                return ratings[a] > ratings[b];
            }
            return a < b;
        }

        int standingAt(int league, int place) {
            for (int who = 0; who < size; who++) {
                if (leagues[who] == league && place(who) == place) {
                    return who;
                }
            }
            return NONE;
        }

        int highest() {
            int highest = 0;
            for (int who = 0; who < size; who++) {
                highest = Math.max(highest, ratings[who]);
            }
            return highest;
        }

        int lowest() {
            int lowest = size == 0 ? 0 : HIGHEST_RATING;
            for (int who = 0; who < size; who++) {
                lowest = Math.min(lowest, ratings[who]);
            }
            return lowest;
        }

        int sumOfRatings() {
            int sum = 0;
            for (int who = 0; who < size; who++) {
                sum += ratings[who];
            }
            return sum;
        }

        private int unevenness(int a, int b) {
            return Math.abs(expectation(a, b) - 500);
        }

        /** The most even other one in the same league. */
        int evenest(int who) {
            int best = NONE;
            for (int other = 0; other < size; other++) {
                if (other == who || leagues[other] != leagues[who]) {
                    continue;
                }
                if (best == NONE || unevenness(other, who) < unevenness(best, who)) {
                    best = other;
                }
            }
            return best;
        }

        /** The pair to meet next: 12 times the first one, and the second one. */
        int bestPair() {
            int best = NONE;
            int fewest = 0;
            int evenest = 0;
            for (int a = 0; a < size; a++) {
                for (int b = a + 1; b < size; b++) {
                    if (leagues[a] != leagues[b]) {
                        continue;
                    }
                    int held = seasonBouts[a] + seasonBouts[b];
                    int uneven = unevenness(a, b);
                    if (best == NONE || held < fewest || held == fewest && uneven < evenest) {
                        best = a * MOST_WRESTLERS + b;
                        fewest = held;
                        evenest = uneven;
                    }
                }
            }
            return best;
        }
    }
}
