import java.math.BigInteger;

/**
 * A test for each sentence of the document that names a boundary, under the sentence's own words: the last value
 * that is allowed and the first that is not, nobody, one alone and a full book, and which calls are refused.
 */
public final class WrestleBookEdges {
    private static final int LOSES = 0;
    private static final int EVEN = 1;
    private static final int WINS = 2;

    private static final Class<?> INDEX = IndexOutOfBoundsException.class;
    private static final Class<?> ARGUMENT = IllegalArgumentException.class;
    private static final Class<?> STATE = IllegalStateException.class;

    private static final int LEAST = Integer.MIN_VALUE;
    private static final int MOST = Integer.MAX_VALUE;
    private static final int[] SIZES = {0, 1, 2, 11, 12};
    private static final int[] NO_LEAGUES = {-1, 3, LEAST, MOST};
    private static final int[] NO_RATINGS = {99, 3001, 0, -100, -3000, LEAST, MOST};
    private static final int[] NO_RESULTS = {-1, 3, LEAST, MOST};
    private static final int[] NO_WINS = {0, 10, -1, LEAST, MOST};
    private static final int[] NO_WHAT = {-1, 9, LEAST, MOST};

    private static String sentence = "";
    private static int sentences = 0;
    private static int checks = 0;
    private static int wrong = 0;

    public static void main(String[] args) {
        termsOfWrestlers();
        termsOfBouts();
        termsOfSeasons();
        whatIsRefused();
        wrestlersAndBouts();
        whatThereIs();
        whatWouldBe();
        System.out.println(wrong == 0 ? sentences + " sentences hold, by " + checks + " checks"
            : wrong + " of " + checks + " checks fail");
        if (wrong != 0) {
            System.exit(1);
        }
    }

    private static void termsOfWrestlers() {
        test("An object is used for at most 512 calls after it has been made", WrestleBookEdges::callNumber512);
        test("/ is cut towards 0: changes of ratings", WrestleBookEdges::changesAreCut);
        test("/ is cut towards 0: expected", WrestleBookEdges::expectedIsCut);
        test("At most 12, numbered from 0", WrestleBookEdges::twelveNumberedFrom0);
        test("each has a rating, 100 to 3000 (1000, at first)", WrestleBookEdges::ratings100To3000);
        test("a league, 0 (the first one) to 2", WrestleBookEdges::leagues0To2);
        test("points of the season (0, at first), bouts in all and of the season, a row of wins (0, at first)",
            WrestleBookEdges::allIs0AtFirst);
        test("the best rating so far (1000, at first)", WrestleBookEdges::bestIs1000AtFirst);
        test("ratings set by hand count as well", WrestleBookEdges::bestByHand);
        test("the best rating so far: by bouts", WrestleBookEdges::bestByBouts);
    }

    private static void termsOfBouts() {
        test("the difference d of their ratings, without its sign, at most 800", WrestleBookEdges::atMost800);
        test("by d / 100, from 0 on", WrestleBookEdges::tableByHundreds);
        test("if d is less than 800, as much of what the next one is more", WrestleBookEdges::allDifferences);
        test("of both, if they are as high", WrestleBookEdges::asHigh);
        test("40 in the first 10 bouts, otherwise 20", WrestleBookEdges::weightOfTheFirst10);
        test("the first 10 bouts: of all seasons, and the own ones", WrestleBookEdges::first10AreTheOwn);
        test("but 10 with a rating of 2000 or more", WrestleBookEdges::weightFrom2000);
        test("asked ahead of the bout", WrestleBookEdges::weightAheadOfTheBout);
        test("the first 10 are asked first", WrestleBookEdges::first10AskedFirst);
        test("all asked ahead of the bout", WrestleBookEdges::bothAheadOfTheBout);
        test("it is held at 100 to 3000: at 3000", WrestleBookEdges::heldAt3000);
        test("it is held at 100 to 3000: at 100", WrestleBookEdges::heldAt100);
        test("Who wins has 2 points more, and a row of wins 1 longer", WrestleBookEdges::whoWins);
        test("if it is even, both have 1 more", WrestleBookEdges::ifEven);
        test("who does not win has a row of 0 then", WrestleBookEdges::rowEnds);
        test("It is an upset, if somebody wins of whom less than 400 was expected", WrestleBookEdges::upsetBelow400);
        test("It is an upset, if somebody wins: not if it is even", WrestleBookEdges::noUpset);
    }

    private static void termsOfSeasons() {
        test("Drift: each wrestler with fewer than 3 bouts in it", WrestleBookEdges::driftBelow3Bouts);
        test("Drift: less by (rating - 1000) / 8 (more, if that is less than 0)", WrestleBookEdges::driftByAnEighth);
        test("if both leagues have somebody", WrestleBookEdges::bothHaveSomebody);
        test("that first one has more points than that last one", WrestleBookEdges::morePoints);
        test("the last one of this league goes down", WrestleBookEdges::lastGoesDown);
        test("the first one of the next one goes up", WrestleBookEdges::firstGoesUp);
        test("In the leagues 0 and 1, one behind the other: behind the drift", WrestleBookEdges::ratingsBehindDrift);
        test("Who went down from the league 0 is in the league 1 as its turn comes",
            WrestleBookEdges::downTwice);
        test("and who went up from there is not", WrestleBookEdges::upOnce);
        test("Points and bouts of the season are 0; the season is 1 greater", WrestleBookEdges::newSeason);
        test("by points, the most first", WrestleBookEdges::orderByPoints);
        test("of as many by rating, the highest first", WrestleBookEdges::orderByRating);
        test("then by number", WrestleBookEdges::orderByNumber);
    }

    private static void whatIsRefused() {
        test("if there is no such wrestler", WrestleBookEdges::noSuchWrestler);
        test("join: if league is not 0 to 2", WrestleBookEdges::joinNoLeague);
        test("join: if there are 12", WrestleBookEdges::joinThereAre12);
        test("rate: if rating is not 100 to 3000", WrestleBookEdges::rateNoRating);
        test("bout: if both are the same", WrestleBookEdges::boutTheSame);
        test("bout: if result is not 0 to 2", WrestleBookEdges::boutNoResult);
        test("told: if what is not 0 to 8", WrestleBookEdges::toldNoWhat);
        test("at: if league is not 0 to 2", WrestleBookEdges::atNoLeague);
        test("at: if there is no such place", WrestleBookEdges::atNoPlace);
        test("count: if what is not 0 to 8", WrestleBookEdges::countNoWhat);
        test("would: if whose is not 0 or 1", WrestleBookEdges::wouldNoWhose);
        test("would: if both are the same", WrestleBookEdges::wouldTheSame);
        test("would: if result is not 0 to 2", WrestleBookEdges::wouldNoResult);
        test("chance: if both are the same", WrestleBookEdges::chanceTheSame);
        test("chance: if wins is not 1 to 9", WrestleBookEdges::chanceNoWins);
        test("foresee: if bouts is not 1 to 40", WrestleBookEdges::foreseeNoBouts);
        test("the one that is named first is thrown: join", WrestleBookEdges::joinFirstNamed);
        test("the one that is named first is thrown: rate", WrestleBookEdges::rateFirstNamed);
        test("the one that is named first is thrown: bout", WrestleBookEdges::boutFirstNamed);
        test("the one that is named first is thrown: would", WrestleBookEdges::wouldFirstNamed);
        test("the one that is named first is thrown: chance", WrestleBookEdges::chanceFirstNamed);
        test("A method that throws an exception changes nothing", WrestleBookEdges::refusedChangesNothing);
    }

    private static void wrestlersAndBouts() {
        test("Creates an empty book, in the season 0", WrestleBookEdges::emptyBook);
        test("join: Returns the number", WrestleBookEdges::joinReturns);
        test("rate: Returns the one before", WrestleBookEdges::rateReturns);
        test("by how much the rating of a, as it is held, is greater then", WrestleBookEdges::boutReturns);
        test("Returns how many wrestlers went up", WrestleBookEdges::endReturns);
        test("end: nobody in the book, one alone, a full book", WrestleBookEdges::endOfSizes);
    }

    private static void whatThereIs() {
        test("expected: another one, or the same", WrestleBookEdges::expectedOfTheSame);
        test("the place in the league, from 1", WrestleBookEdges::placeFrom1);
        test("at: a place in it, from 1", WrestleBookEdges::atFrom1);
        test("4 to 6 wrestlers in the league 0, 1 and 2", WrestleBookEdges::countOfLeagues);
        test("7 the highest rating, 8 the lowest one (both 0 without wrestlers)", WrestleBookEdges::countOfRatings);
        test("0 the season, 1 wrestlers, 2 bouts in all, 3 upsets in all", WrestleBookEdges::countOfAll);
    }

    private static void whatWouldBe() {
        test("would: 0 of a, 1 of b", WrestleBookEdges::wouldWhose);
        test("would: how much greater, at 100 and 3000", WrestleBookEdges::wouldAtTheBounds);
        test("(nothing is changed), and so by each call that only asks", WrestleBookEdges::askingChangesNothing);
        test("chance: 1000000 for i = 0, otherwise 0 for j = 0", WrestleBookEdges::chanceOfOneWin);
        test("chance: this is f(wins, wins)", WrestleBookEdges::chanceOfWins);
        test("match: -1 without one", WrestleBookEdges::matchWithoutOne);
        test("match: the least more or less than 500 is expected", WrestleBookEdges::matchMostEven);
        test("match: of several the one with the smallest number", WrestleBookEdges::matchSmallestNumber);
        test("next: -1 if there is none", WrestleBookEdges::nextWithoutOne);
        test("12 times the first one, and the second one (which is greater), added", WrestleBookEdges::nextPairs);
        test("next: those with the fewest bouts", WrestleBookEdges::nextFewestBouts);
        test("next: the fewest bouts, both added", WrestleBookEdges::nextBothAdded);
        test("next: the fewest bouts of the season", WrestleBookEdges::nextOfTheSeason);
        test("next: of them the most even one", WrestleBookEdges::nextMostEven);
        test("next: the smallest first number, then the smallest second one", WrestleBookEdges::nextSmallest);
        test("foresee: how many bouts are held, 1 to 40", WrestleBookEdges::foresee1To40);
        test("won by the one with the higher rating, by the first one, if they are as high",
            WrestleBookEdges::foreseeWhoWins);
        test("foresee: Returns the rating of the highest one then; 0 without wrestlers",
            WrestleBookEdges::foreseeHighest);
        test("foresee: it is over, if there is no next one", WrestleBookEdges::foreseeOver);
        test("foresee: each time that of next()", WrestleBookEdges::foreseeAsHeld);
        test("Returns the mean rating; 0 without wrestlers", WrestleBookEdges::meanOfSizes);
        test("d becomes d * 31 + x, which wraps around as a 64-bit integer", WrestleBookEdges::digestWraps);
        test("digest: for each wrestler what told() tells, in its order", WrestleBookEdges::digestOfAll);
    }

    // ---- Terms: wrestlers

    private static void callNumber512() {
        int[][] rows = {{2, 1018}, {3, 509}, {4, 509}, {5, 509}};
        for (int[] row : rows) {
            WrestleBook book = leagues(0, 1);
            hold(book, 0, 1, WINS, 509);
            due("told(0, " + row[0] + ") as call 512", book.told(0, row[0]), row[1]);
        }
        WrestleBook seasons = new WrestleBook();
        for (int i = 0; i < 511; i++) {
            seasons.end();
        }
        due("count(0) as call 512", seasons.count(0), 511);
        WrestleBook refused = new WrestleBook();
        for (int i = 0; i < 511; i++) {
            thrown(refused, x -> x.join(3));
        }
        due("join(0) as call 512", refused.join(0), 0);
    }

    private static void changesAreCut() {
        // 526 and 474 are expected: 40 * 474 is 18960, 40 * 526 is 21040, 40 * 26 is 1040.
        WrestleBook near = rated(1019, 1000);
        dueWould(near, WINS, 18, -18);
        dueWould(near, EVEN, -1, 1);
        dueWould(near, LOSES, -21, 21);
        // 501 and 499 are expected: 20 * 499 is 9980, 20 * 501 is 10020, 20 * 1 is 20.
        WrestleBook old = veterans(1001, 1000);
        dueWould(old, WINS, 9, -9);
        dueWould(old, EVEN, 0, 0);
        dueWould(old, LOSES, -10, 10);
        // 990 and 10 are expected: 10 * 10 and 20 * 10 are less than 1000.
        WrestleBook far = veterans(2500, 1000);
        dueWould(far, WINS, 0, 0);
        dueWould(far, EVEN, -4, 9);
        dueWould(far, LOSES, -9, 19);
    }

    private static void expectedIsCut() {
        // 140 / 100 is 1, and the other one has 1000 less 501, not 498.6.
        int[][] rows = {{1, 501, 499}, {2, 502, 498}, {5, 507, 493}, {99, 638, 362}, {101, 641, 359}, {799, 989, 11}};
        for (int[] row : rows) {
            WrestleBook book = rated(1500, 1500 - row[0]);
            due("of the higher one, d " + row[0], book.expected(0, 1), row[1]);
            due("of the lower one, d " + row[0], book.expected(1, 0), row[2]);
        }
    }

    private static void twelveNumberedFrom0() {
        WrestleBook book = new WrestleBook();
        due("nobody", book.count(1), 0);
        for (int number = 0; number < 12; number++) {
            due("join, number " + number, book.join(number % 3), number);
            due("as many as there are", book.count(1), number + 1);
        }
        dueThrow("the thirteenth", book, STATE, x -> x.join(0));
        due("still 12", book.count(1), 12);
        due("the last one is there", book.told(11, 0), 1000);
        dueThrow("none behind the last one", book, INDEX, x -> x.told(12, 0));
    }

    private static void ratings100To3000() {
        WrestleBook book = new WrestleBook();
        book.join(2);
        due("at first", book.told(0, 0), 1000);
        for (int rating : new int[] {100, 3000, 101, 2999}) {
            book.rate(0, rating);
            due("rated " + rating, book.told(0, 0), rating);
        }
        dueThrow("99", book, ARGUMENT, x -> x.rate(0, 99));
        dueThrow("3001", book, ARGUMENT, x -> x.rate(0, 3001));
        due("as it was", book.told(0, 0), 2999);
    }

    private static void leagues0To2() {
        for (int league = 0; league <= 2; league++) {
            WrestleBook book = leagues(league);
            due("the league", book.told(0, 1), league);
            due("the only one in it", book.at(league, 1), 0);
            due("wrestlers in it", book.count(4 + league), 1);
        }
        for (int league : NO_LEAGUES) {
            dueThrow("league " + league, new WrestleBook(), ARGUMENT, x -> x.join(league));
        }
    }

    private static void allIs0AtFirst() {
        // Behind bouts and a season of others, and as the last one that there may be.
        WrestleBook book = bookOf(11);
        int last = book.join(1);
        for (int what = 2; what <= 5; what++) {
            due("told(" + last + ", " + what + ")", book.told(last, what), 0);
        }
        WrestleBook alone = leagues(0);
        for (int what = 2; what <= 5; what++) {
            due("alone: told(0, " + what + ")", alone.told(0, what), 0);
        }
    }

    private static void bestIs1000AtFirst() {
        WrestleBook book = leagues(0, 0);
        due("at first", book.told(0, 6), 1000);
        book.rate(0, 999);
        due("999 is no best one", book.told(0, 6), 1000);
        book.rate(0, 1000);
        due("1000 is as good", book.told(0, 6), 1000);
        book.rate(0, 1001);
        due("1001 is better", book.told(0, 6), 1001);
        book.rate(1, 100);
        book.end();
        due("drifted up", book.told(1, 0), 212);
        due("1000 stays through a drift up", book.told(1, 6), 1000);
        book.rate(1, 992);
        book.end();
        due("and through one to 993", book.told(1, 6), 1000);
    }

    private static void bestByHand() {
        WrestleBook book = leagues(0, 0);
        book.rate(0, 3000);
        book.rate(0, 100);
        due("best is 3000", book.told(0, 6), 3000);
        due("rating is 100", book.told(0, 0), 100);
        due("of the other one it is as it was", book.told(1, 6), 1000);
        book.rate(0, 2999);
        due("2999 is less", book.told(0, 6), 3000);
    }

    private static void bestByBouts() {
        WrestleBook book = rated(1000, 1000);
        book.bout(0, 1, WINS);
        due("of a who wins", book.told(0, 6), 1020);
        due("of b who loses", book.told(1, 6), 1000);
        book.bout(0, 1, LOSES);
        due("it stays, if a loses", book.told(0, 6), 1020);
        // 444 is expected of b, with 980 against 1020: 40 * 556 is 22240.
        due("b rises to 1002", book.told(1, 0), 1002);
        due("of b who wins", book.told(1, 6), 1002);
        WrestleBook top = rated(2990, 2990);
        top.bout(0, 1, WINS);
        due("no more than what is held", top.told(0, 6), 3000);
        top.end();
        due("it stays through a drift down", top.told(0, 6), 3000);
        due("drifted down", top.told(0, 0), 2750);
    }

    // ---- Terms: bouts

    private static void atMost800() {
        int[][] rows = {{699, 982}, {700, 983}, {701, 983}, {799, 989}, {800, 990}, {801, 990}, {899, 990},
            {900, 990}, {1600, 990}, {2899, 990}, {2900, 990}};
        for (int[] row : rows) {
            WrestleBook high = rated(3000, 3000 - row[0]);
            due("a is higher, d " + row[0], high.expected(0, 1), row[1]);
            due("b is lower, d " + row[0], high.expected(1, 0), 1000 - row[1]);
            WrestleBook low = rated(100, 100 + row[0]);
            due("a is lower, d " + row[0], low.expected(0, 1), 1000 - row[1]);
            due("b is higher, d " + row[0], low.expected(1, 0), row[1]);
        }
    }

    private static void tableByHundreds() {
        // One below, at, and one above each hundred.
        int[][] rows = {{500, 500, 501}, {638, 640, 641}, {758, 760, 760}, {848, 849, 849}, {908, 909, 909},
            {946, 947, 947}, {968, 969, 969}, {982, 983, 983}, {989, 990, 990}};
        for (int hundreds = 0; hundreds < rows.length; hundreds++) {
            for (int i = hundreds == 0 ? 1 : 0; i <= 2; i++) {
                int d = 100 * hundreds + i - 1;
                WrestleBook book = rated(2000, 2000 - d);
                due("expected, d " + d, book.expected(0, 1), rows[hundreds][i]);
                due("the other one, d " + d, book.expected(1, 0), 1000 - rows[hundreds][i]);
            }
        }
    }

    private static void allDifferences() {
        for (int d = 0; d <= 2900; d++) {
            WrestleBook book = rated(100 + d, 100);
            int due = expectedByHand(d);
            due("expected, d " + d, book.expected(0, 1), due);
            due("the other one, d " + d, book.expected(1, 0), d == 0 ? 500 : 1000 - due);
        }
    }

    private static int expectedByHand(int d) {
        int[] table = {500, 640, 760, 849, 909, 947, 969, 983, 990};
        if (d >= 800) {
            return 990;
        }
        int hundreds = 0;
        while (100 * (hundreds + 1) <= d) {
            hundreds++;
        }
        int more = table[hundreds + 1] - table[hundreds];
        return table[hundreds] + more * (d - 100 * hundreds) / 100;
    }

    private static void asHigh() {
        for (int rating : new int[] {100, 1000, 3000}) {
            WrestleBook book = rated(rating, rating);
            due("of a, both " + rating, book.expected(0, 1), 500);
            due("of b, both " + rating, book.expected(1, 0), 500);
        }
        WrestleBook apart = rated(1001, 1000);
        due("one higher", apart.expected(0, 1), 501);
        due("one lower", apart.expected(1, 0), 499);
    }

    private static void weightOfTheFirst10() {
        WrestleBook book = rated(1000, 1000);
        for (int held = 0; held <= 9; held++) {
            due("weight behind " + held, book.told(0, 8), 40);
            due("the other one's behind " + held, book.told(1, 8), 40);
            rateBoth(book, 1000, 1000);
            due("bout number " + (held + 1), book.bout(0, 1, WINS), 20);
            due("and for b", book.told(1, 0), 980);
        }
        for (int held = 10; held <= 12; held++) {
            due("weight behind " + held, book.told(0, 8), 20);
            due("the other one's behind " + held, book.told(1, 8), 20);
            rateBoth(book, 1000, 1000);
            due("bout number " + (held + 1), book.bout(0, 1, WINS), 10);
            due("and for b", book.told(1, 0), 990);
        }
    }

    private static void first10AreTheOwn() {
        WrestleBook book = rated(1000, 1000, 1000);
        hold(book, 0, 1, EVEN, 5);
        book.end();
        hold(book, 1, 0, EVEN, 4);
        due("9 in two seasons", book.told(0, 8), 40);
        hold(book, 0, 1, EVEN, 1);
        due("10 in two seasons", book.told(0, 8), 20);
        due("of b as well", book.told(1, 8), 20);
        book.end();
        due("10, and none of the season", book.told(0, 8), 20);
        due("no bouts of the own", book.told(2, 8), 40);
        rateBoth(book, 1000, 1000);
        book.rate(2, 1000);
        due("20 against one who has 40", book.bout(0, 2, WINS), 10);
        due("who loses by 40", book.told(2, 0), 980);
        book.rate(2, 1000);
        due("40 against one who has 20", book.bout(2, 1, WINS), 20);
        due("who loses by 20", book.told(1, 0), 990);
    }

    private static void weightFrom2000() {
        int[][] rows = {{100, 20}, {1000, 20}, {1999, 20}, {2000, 10}, {2001, 10}, {3000, 10}};
        for (int[] row : rows) {
            WrestleBook book = veterans(row[0], row[0]);
            due("weight of " + row[0], book.told(0, 8), row[1]);
            due("of b as well", book.told(1, 8), row[1]);
        }
        due("20 at 1999", veterans(1999, 1999).would(0, 1, WINS, 0), 10);
        due("10 at 2000", veterans(2000, 2000).would(0, 1, WINS, 0), 5);
        due("10 at 2000, of b", veterans(2000, 2000).would(0, 1, WINS, 1), -5);
        // 501 and 499 are expected: 10 * 499 and 20 * 499.
        dueWould(veterans(2000, 1999), WINS, 4, -9);
        dueWould(veterans(1999, 2000), LOSES, -9, 4);
    }

    private static void weightAheadOfTheBout() {
        WrestleBook up = veterans(1999, 1999);
        due("20 takes a over 2000", up.bout(0, 1, WINS), 10);
        due("then it is 10", up.told(0, 8), 10);
        WrestleBook down = veterans(2000, 2000);
        due("10 takes a under 2000", down.bout(0, 1, LOSES), -5);
        due("b rises by 10", down.told(1, 0), 2005);
        due("then a has 20", down.told(0, 8), 20);
        due("and b has 10", down.told(1, 8), 10);
    }

    private static void first10AskedFirst() {
        WrestleBook book = rated(2000, 3000);
        hold(book, 0, 1, EVEN, 9);
        rateBoth(book, 2000, 3000);
        due("40 with 2000 and 9 bouts", book.told(0, 8), 40);
        due("40 with 3000 and 9 bouts", book.told(1, 8), 40);
        hold(book, 0, 1, EVEN, 1);
        rateBoth(book, 2000, 3000);
        due("10 with 2000 and 10 bouts", book.told(0, 8), 10);
        due("10 with 3000 and 10 bouts", book.told(1, 8), 10);
        due("40 with 2000 and none", rated(2000, 2000).bout(0, 1, WINS), 20);
    }

    private static void bothAheadOfTheBout() {
        // 640 and 360 are expected: 40 * 640 is 25600, 40 * 360 is 14400, 40 * 140 is 5600.
        int[][] rows = {{WINS, 1114, 986}, {EVEN, 1095, 1005}, {LOSES, 1075, 1025}};
        for (int[] row : rows) {
            WrestleBook book = rated(1100, 1000);
            book.bout(0, 1, row[0]);
            due("rating of a, result " + row[0], book.told(0, 0), row[1]);
            due("rating of b, result " + row[0], book.told(1, 0), row[2]);
            WrestleBook turned = rated(1000, 1100);
            turned.bout(0, 1, 2 - row[0]);
            due("turned: rating of a", turned.told(0, 0), row[2]);
            due("turned: rating of b", turned.told(1, 0), row[1]);
        }
    }

    private static void heldAt3000() {
        int[][] rows = {{2979, 2999, 20}, {2980, 3000, 20}, {2981, 3000, 19}, {2999, 3000, 1}, {3000, 3000, 0}};
        for (int[] row : rows) {
            WrestleBook book = rated(row[0], row[0]);
            due("a wins with " + row[0], book.bout(0, 1, WINS), row[2]);
            due("rating of a", book.told(0, 0), row[1]);
            due("rating of b", book.told(1, 0), row[0] - 20);
            WrestleBook turned = rated(row[0], row[0]);
            due("b wins with " + row[0], turned.bout(0, 1, LOSES), -20);
            due("rating of b who wins", turned.told(1, 0), row[1]);
        }
        // 10 is expected of the lower one: 40 * 490 is 19600, 40 * 10 is 400.
        WrestleBook far = rated(3000, 100);
        due("even, and nobody is held", far.bout(0, 1, EVEN), -19);
        due("the lower one rises", far.told(1, 0), 119);
    }

    private static void heldAt100() {
        int[][] rows = {{121, 101, -20}, {120, 100, -20}, {119, 100, -19}, {101, 100, -1}, {100, 100, 0}};
        for (int[] row : rows) {
            WrestleBook book = rated(row[0], row[0]);
            due("a loses with " + row[0], book.bout(0, 1, LOSES), row[2]);
            due("rating of a", book.told(0, 0), row[1]);
            due("rating of b", book.told(1, 0), row[0] + 20);
            WrestleBook turned = rated(row[0], row[0]);
            due("b loses with " + row[0], turned.bout(0, 1, WINS), 20);
            due("rating of b who loses", turned.told(1, 0), row[1]);
        }
    }

    private static void whoWins() {
        WrestleBook book = rated(1000, 1000);
        for (int won = 1; won <= 3; won++) {
            book.bout(0, 1, WINS);
            dueSeason(book, 0, 2 * won, won, won);
            dueSeason(book, 1, 0, won, 0);
        }
        WrestleBook second = rated(1000, 1000);
        for (int won = 1; won <= 3; won++) {
            second.bout(0, 1, LOSES);
            dueSeason(second, 0, 0, won, 0);
            dueSeason(second, 1, 2 * won, won, won);
        }
    }

    private static void ifEven() {
        WrestleBook book = rated(1000, 3000, 1000);
        book.bout(0, 1, EVEN);
        dueSeason(book, 0, 1, 1, 0);
        dueSeason(book, 1, 1, 1, 0);
        dueSeason(book, 2, 0, 0, 0);
        book.bout(1, 0, EVEN);
        dueSeason(book, 0, 2, 2, 0);
        dueSeason(book, 1, 2, 2, 0);
    }

    private static void rowEnds() {
        for (int result : new int[] {LOSES, EVEN}) {
            WrestleBook book = rated(1000, 1000, 1000);
            hold(book, 0, 2, WINS, 2);
            due("a row of 2", book.told(0, 5), 2);
            book.bout(0, 1, result);
            due("the row of a, result " + result, book.told(0, 5), 0);
            WrestleBook turned = rated(1000, 1000, 1000);
            hold(turned, 2, 1, LOSES, 2);
            turned.bout(0, 1, 2 - result);
            due("the row of b, result " + (2 - result), turned.told(1, 5), 0);
            turned.bout(1, 0, WINS);
            due("a new row", turned.told(1, 5), 1);
        }
        WrestleBook over = rated(1000, 1000);
        hold(over, 0, 1, WINS, 2);
        over.end();
        due("a row goes on behind a season", over.told(0, 5), 2);
        over.bout(0, 1, WINS);
        due("and is 1 longer", over.told(0, 5), 3);
    }

    private static void upsetBelow400() {
        // 500 + 140 * 72 / 100 is 600, and with 73 it is 602: 399 is expected of nobody.
        int[][] rows = {{0, 0}, {71, 0}, {72, 0}, {73, 1}, {100, 1}, {800, 1}, {2900, 1}};
        for (int[] row : rows) {
            WrestleBook book = rated(100, 100 + row[0]);
            book.bout(0, 1, WINS);
            due("a wins, lower by " + row[0], book.count(3), row[1]);
            WrestleBook turned = rated(100 + row[0], 100);
            turned.bout(0, 1, LOSES);
            due("b wins, lower by " + row[0], turned.count(3), row[1]);
        }
        due("400 is expected", rated(1000, 1072).expected(0, 1), 400);
        due("398 is expected", rated(1000, 1073).expected(0, 1), 398);
    }

    private static void noUpset() {
        for (int d : new int[] {0, 72, 73, 800, 2900}) {
            WrestleBook book = rated(100 + d, 100);
            book.bout(0, 1, EVEN);
            rateBoth(book, 100 + d, 100);
            book.bout(1, 0, EVEN);
            due("even, d " + d, book.count(3), 0);
            rateBoth(book, 100 + d, 100);
            book.bout(0, 1, WINS);
            rateBoth(book, 100 + d, 100);
            book.bout(1, 0, LOSES);
            due("the higher one wins, d " + d, book.count(3), 0);
            due("bouts all the same, d " + d, book.count(2), 4);
        }
    }

    // ---- Terms: seasons

    private static void driftBelow3Bouts() {
        for (int held = 0; held <= 4; held++) {
            WrestleBook book = rated(1000, 1000);
            hold(book, 0, 1, EVEN, held);
            rateBoth(book, 1800, 200);
            book.end();
            due("of a with " + held, book.told(0, 0), held < 3 ? 1700 : 1800);
            due("of b with " + held, book.told(1, 0), held < 3 ? 300 : 200);
        }
        WrestleBook book = rated(1000, 1000, 1000);
        hold(book, 0, 1, EVEN, 12);
        book.end();
        hold(book, 0, 1, EVEN, 2);
        hold(book, 0, 2, EVEN, 1);
        book.rate(0, 1800);
        book.rate(1, 1800);
        book.rate(2, 1800);
        book.end();
        due("3 of the season", book.told(0, 0), 1800);
        due("14 in all, but 2 of the season", book.told(1, 0), 1700);
        due("1 of the season", book.told(2, 0), 1700);
    }

    private static void driftByAnEighth() {
        int[][] rows = {{1000, 1000}, {1001, 1001}, {1007, 1007}, {1008, 1007}, {1015, 1014}, {1016, 1014},
            {2999, 2750}, {3000, 2750}, {999, 999}, {993, 993}, {992, 993}, {985, 986}, {984, 986}, {101, 213},
            {100, 212}};
        for (int[] row : rows) {
            WrestleBook book = rated(row[0]);
            book.end();
            due("drift of " + row[0], book.told(0, 0), row[1]);
        }
    }

    private static void bothHaveSomebody() {
        int[][] held = {{1, 1}, {2, 2}, {0, 0}, {0, 2}};
        for (int[] leagues : held) {
            WrestleBook book = leagues(leagues);
            book.bout(1, 0, WINS);
            due("nobody goes up", book.end(), 0);
            dueLeagues(book, leagues);
        }
        WrestleBook overAGap = leagues(0, 2, 2);
        overAGap.bout(1, 2, WINS);
        due("nor over an empty league", overAGap.end(), 0);
        dueLeagues(overAGap, 0, 2, 2);
        WrestleBook upper = leagues(0, 1);
        upper.bout(1, 0, WINS);
        due("one in each of 0 and 1", upper.end(), 1);
        dueLeagues(upper, 1, 0);
        WrestleBook lower = leagues(1, 2);
        lower.bout(1, 0, WINS);
        due("one in each of 1 and 2", lower.end(), 1);
        dueLeagues(lower, 2, 1);
    }

    private static void morePoints() {
        for (int league = 0; league <= 1; league++) {
            // The third one makes the points uneven, and wins enough then not to be the last one.
            WrestleBook none = leagues(league, league + 1, league);
            none.rate(1, 3000);
            due("0 and 0", none.end(), 0);
            WrestleBook asMany = leagues(league, league + 1, league);
            asMany.bout(0, 1, EVEN);
            hold(asMany, 2, 0, WINS, 2);
            asMany.rate(1, 3000);
            due("1 and 1", asMany.end(), 0);
            dueLeagues(asMany, league, league + 1, league);
            WrestleBook fewer = leagues(league, league + 1, league);
            fewer.bout(0, 1, EVEN);
            fewer.bout(0, 2, EVEN);
            hold(fewer, 2, 0, WINS, 2);
            fewer.rate(1, 3000);
            due("2 and 1", fewer.end(), 0);
            dueLeagues(fewer, league, league + 1, league);
            WrestleBook more = leagues(league, league + 1, league);
            more.bout(0, 1, EVEN);
            more.bout(1, 2, EVEN);
            hold(more, 2, 0, WINS, 2);
            more.rate(0, 3000);
            due("1 and 2", more.end(), 1);
            dueLeagues(more, league + 1, league, league);
        }
    }

    private static void lastGoesDown() {
        WrestleBook byPoints = leagues(0, 0, 0, 1);
        byPoints.bout(3, 0, WINS);
        byPoints.bout(0, 2, EVEN);
        byPoints.bout(1, 3, EVEN);
        byPoints.bout(0, 2, EVEN);
        byPoints.rate(1, 3000);
        due("by points: 2, 1 and 2 against 3", byPoints.end(), 1);
        dueLeagues(byPoints, 0, 1, 0, 0);

        WrestleBook byRating = leagues(0, 0, 0, 1);
        byRating.bout(3, 0, WINS);
        byRating.rate(0, 1100);
        byRating.rate(1, 900);
        byRating.rate(2, 1000);
        due("by rating", byRating.end(), 1);
        dueLeagues(byRating, 0, 1, 0, 0);

        WrestleBook byNumber = leagues(0, 0, 1, 0);
        byNumber.bout(2, 0, WINS);
        byNumber.rate(0, 1000);
        due("by number", byNumber.end(), 1);
        dueLeagues(byNumber, 0, 0, 0, 1);
    }

    private static void firstGoesUp() {
        WrestleBook byPoints = leagues(0, 1, 1, 1);
        byPoints.bout(1, 2, EVEN);
        byPoints.bout(2, 3, EVEN);
        byPoints.rate(1, 3000);
        due("by points: 1, 2 and 1", byPoints.end(), 1);
        dueLeagues(byPoints, 1, 1, 0, 1);

        WrestleBook byRating = leagues(0, 1, 1);
        byRating.bout(1, 2, EVEN);
        byRating.rate(2, 1100);
        due("by rating", byRating.end(), 1);
        dueLeagues(byRating, 1, 1, 0);

        WrestleBook byNumber = leagues(0, 1, 1);
        byNumber.bout(1, 2, EVEN);
        due("by number", byNumber.end(), 1);
        dueLeagues(byNumber, 1, 0, 1);
    }

    private static void ratingsBehindDrift() {
        // 1008 and 1007 both drift to 1007, so that the number tells who is last, and who is first.
        WrestleBook last = leagues(0, 0, 1);
        last.bout(2, 0, WINS);
        last.rate(0, 1007);
        last.rate(1, 1008);
        due("as high behind the drift", last.end(), 1);
        dueLeagues(last, 0, 1, 0);
        WrestleBook first = leagues(0, 1, 1);
        first.bout(1, 2, EVEN);
        first.rate(1, 1007);
        first.rate(2, 1008);
        due("as high behind the drift", first.end(), 1);
        dueLeagues(first, 1, 0, 1);
        // 0 has 3 bouts and stays at 1050; 1 drifts from 1055 to 1049 and is behind it then.
        WrestleBook passed = leagues(0, 0, 1);
        hold(passed, 2, 0, WINS, 3);
        passed.rate(0, 1050);
        passed.rate(1, 1055);
        due("passed by the drift", passed.end(), 1);
        dueLeagues(passed, 0, 1, 0);
    }

    private static void downTwice() {
        WrestleBook alone = leagues(0, 1, 2);
        alone.bout(1, 0, WINS);
        alone.bout(1, 0, WINS);
        alone.bout(2, 0, WINS);
        due("down by two, as the only one left in the league 1", alone.end(), 2);
        dueLeagues(alone, 2, 0, 1);

        WrestleBook among = leagues(0, 1, 1, 2);
        among.bout(1, 0, WINS);
        among.bout(1, 0, WINS);
        among.bout(3, 2, WINS);
        among.rate(2, 1100);
        due("down by two, as the last one", among.end(), 2);
        dueLeagues(among, 2, 0, 1, 1);

        WrestleBook ahead = leagues(0, 1, 1, 2);
        ahead.bout(1, 0, WINS);
        ahead.bout(1, 0, WINS);
        ahead.bout(3, 2, WINS);
        ahead.rate(0, 1100);
        due("down by one, ahead of another one", ahead.end(), 2);
        dueLeagues(ahead, 1, 0, 2, 1);
    }

    private static void upOnce() {
        WrestleBook one = leagues(0, 1, 2);
        one.bout(2, 0, WINS);
        one.bout(2, 1, WINS);
        due("from the league 2 by one, with more points than any", one.end(), 1);
        dueLeagues(one, 0, 2, 1);
        // 1 goes up with 1 point; were it still in the league 1, 2 with 1 point would stay.
        WrestleBook gone = leagues(0, 1, 2);
        gone.bout(1, 2, EVEN);
        due("who went up is not the last one there", gone.end(), 2);
        dueLeagues(gone, 2, 0, 1);
    }

    private static void newSeason() {
        WrestleBook book = bookOf(12);
        hold(book, 0, 11, WINS, 3);
        int season = book.count(0);
        int bouts = book.count(2);
        int upsets = book.count(3);
        int row = book.told(0, 5);
        int held = book.told(0, 3);
        int best = book.told(0, 6);
        book.end();
        for (int who = 0; who < 12; who++) {
            due("points of " + who, book.told(who, 2), 0);
            due("bouts of the season of " + who, book.told(who, 4), 0);
        }
        due("1 greater", book.count(0), season + 1);
        due("bouts in all stay", book.count(2), bouts);
        due("upsets stay", book.count(3), upsets);
        due("a row stays", book.told(0, 5), row);
        due("bouts in all of one stay", book.told(0, 3), held);
        due("the best one stays", book.told(0, 6), best);
    }

    private static void orderByPoints() {
        WrestleBook book = rated(1000, 1000, 1000);
        book.bout(2, 1, WINS);
        book.bout(2, 1, EVEN);
        rateBoth(book, 3000, 2000);
        book.rate(2, 100);
        dueOrder(book, 0, 2, 1, 0);
    }

    private static void orderByRating() {
        dueOrder(rated(999, 1000, 1001), 0, 2, 1, 0);
        dueOrder(rated(100, 3000, 101, 2999), 0, 1, 3, 2, 0);
        WrestleBook asMany = rated(1000, 1000, 1000);
        asMany.bout(0, 1, EVEN);
        asMany.rate(1, 1001);
        asMany.rate(2, 3000);
        dueOrder(asMany, 0, 1, 0, 2);
    }

    private static void orderByNumber() {
        dueOrder(rated(1000, 1000, 1000), 0, 0, 1, 2);
        dueOrder(leagues(2, 1, 2, 1, 2), 2, 0, 2, 4);
        dueOrder(leagues(0, 0, 0, 0, 0, 0, 0, 0, 0, 0, 0, 0), 0, 0, 1, 2, 3, 4, 5, 6, 7, 8, 9, 10, 11);
        WrestleBook asMany = rated(1000, 1000, 1000);
        asMany.bout(2, 1, EVEN);
        dueOrder(asMany, 0, 1, 2, 0);
    }

    // ---- what is refused

    private static void noSuchWrestler() {
        for (int size : SIZES) {
            for (int no : new int[] {-1, size, 12, 13, LEAST, MOST}) {
                noSuchWrestler(size, no);
            }
            if (size > 0) {
                lastOneIsThere(size);
            }
        }
    }

    private static void noSuchWrestler(int size, int no) {
        String which = ", " + no + " of " + size;
        refused("rate" + which, size, INDEX, x -> x.rate(no, 1000));
        refused("bout of a" + which, size, INDEX, x -> x.bout(no, 0, WINS));
        refused("bout of b" + which, size, INDEX, x -> x.bout(0, no, WINS));
        refused("expected of a" + which, size, INDEX, x -> x.expected(no, 0));
        refused("expected of b" + which, size, INDEX, x -> x.expected(0, no));
        refused("expected of both" + which, size, INDEX, x -> x.expected(no, no));
        refused("told" + which, size, INDEX, x -> x.told(no, 0));
        refused("would of a" + which, size, INDEX, x -> x.would(no, 0, WINS, 0));
        refused("would of b" + which, size, INDEX, x -> x.would(0, no, WINS, 1));
        refused("chance of a" + which, size, INDEX, x -> x.chance(no, 0, 1));
        refused("chance of b" + which, size, INDEX, x -> x.chance(0, no, 1));
        refused("match" + which, size, INDEX, x -> x.match(no));
    }

    private static void lastOneIsThere(int size) {
        int last = size - 1;
        due("rate of the last of " + size, thrown(bookOf(size), x -> x.rate(last, 1000)), null);
        due("expected of the last of " + size, thrown(bookOf(size), x -> x.expected(last, 0)), null);
        due("expected against it", thrown(bookOf(size), x -> x.expected(0, last)), null);
        due("told of the last of " + size, thrown(bookOf(size), x -> x.told(last, 0)), null);
        due("match of the last of " + size, thrown(bookOf(size), x -> x.match(last)), null);
        Class<?> due = size == 1 ? ARGUMENT : null;
        due("bout of the last of " + size, thrown(bookOf(size), x -> x.bout(last, 0, WINS)), due);
        due("bout against it", thrown(bookOf(size), x -> x.bout(0, last, WINS)), due);
        due("would of the last of " + size, thrown(bookOf(size), x -> x.would(last, 0, WINS, 0)), due);
        due("would against it", thrown(bookOf(size), x -> x.would(0, last, WINS, 1)), due);
        due("chance of the last of " + size, thrown(bookOf(size), x -> x.chance(last, 0, 9)), due);
        due("chance against it", thrown(bookOf(size), x -> x.chance(0, last, 1)), due);
    }

    private static void joinNoLeague() {
        for (int league : NO_LEAGUES) {
            for (int size : new int[] {0, 1, 11}) {
                refused("join(" + league + "), with " + size, size, ARGUMENT, x -> x.join(league));
            }
        }
        WrestleBook book = new WrestleBook();
        thrown(book, x -> x.join(-1));
        thrown(book, x -> x.join(3));
        due("a refused one takes no number", book.join(0), 0);
    }

    private static void joinThereAre12() {
        for (int league = 0; league <= 2; league++) {
            int in = league;
            refused("join(" + in + "), with 12", 12, STATE, x -> x.join(in));
            due("join(" + in + "), with 11", bookOf(11).join(in), 11);
        }
        WrestleBook season = bookOf(12);
        season.end();
        dueThrow("a season makes no room", season, STATE, x -> x.join(0));
    }

    private static void rateNoRating() {
        for (int rating : NO_RATINGS) {
            for (int size : new int[] {1, 12}) {
                refused("rate(0, " + rating + ")", size, ARGUMENT, x -> x.rate(0, rating));
                refused("rate of the last one, " + rating, size, ARGUMENT, x -> x.rate(size - 1, rating));
            }
        }
        due("100 is allowed", thrown(bookOf(1), x -> x.rate(0, 100)), null);
        due("3000 is allowed", thrown(bookOf(1), x -> x.rate(0, 3000)), null);
    }

    private static void boutTheSame() {
        for (int who : new int[] {0, 5, 11}) {
            for (int result = LOSES; result <= WINS; result++) {
                int how = result;
                refused("bout(" + who + ", " + who + ", " + how + ")", 12, ARGUMENT, x -> x.bout(who, who, how));
            }
        }
        refused("one alone", 1, ARGUMENT, x -> x.bout(0, 0, WINS));
    }

    private static void boutNoResult() {
        for (int result : NO_RESULTS) {
            refused("bout(0, 1, " + result + ")", 2, ARGUMENT, x -> x.bout(0, 1, result));
            refused("bout(11, 0, " + result + ")", 12, ARGUMENT, x -> x.bout(11, 0, result));
        }
        due("0 is allowed", thrown(bookOf(2), x -> x.bout(0, 1, 0)), null);
        due("2 is allowed", thrown(bookOf(2), x -> x.bout(0, 1, 2)), null);
    }

    private static void toldNoWhat() {
        for (int what : NO_WHAT) {
            refused("told(0, " + what + ")", 1, INDEX, x -> x.told(0, what));
            refused("told(11, " + what + ")", 12, INDEX, x -> x.told(11, what));
            refused("told(0, " + what + "), nobody", 0, INDEX, x -> x.told(0, what));
        }
        due("0 is allowed", thrown(bookOf(1), x -> x.told(0, 0)), null);
        due("8 is allowed", thrown(bookOf(1), x -> x.told(0, 8)), null);
    }

    private static void atNoLeague() {
        for (int league : NO_LEAGUES) {
            for (int size : SIZES) {
                refused("at(" + league + ", 1), with " + size, size, INDEX, x -> x.at(league, 1));
            }
            refused("at(" + league + ", 0)", 12, INDEX, x -> x.at(league, 0));
        }
    }

    private static void atNoPlace() {
        for (int league = 0; league <= 2; league++) {
            int in = league;
            for (int size : SIZES) {
                int places = bookOf(size).count(4 + in);
                for (int place : new int[] {0, -1, places + 1, 13, LEAST, MOST}) {
                    refused("at(" + in + ", " + place + "), with " + size, size, INDEX, x -> x.at(in, place));
                }
            }
        }
        WrestleBook full = leagues(1, 1, 1, 1, 1, 1, 1, 1, 1, 1, 1, 1);
        due("place 12 of 12", full.at(1, 12), 11);
        dueThrow("place 13 of 12", full, INDEX, x -> x.at(1, 13));
        dueThrow("place 1 of none", full, INDEX, x -> x.at(0, 1));
        dueThrow("place 1 of none", full, INDEX, x -> x.at(2, 1));
    }

    private static void countNoWhat() {
        for (int what : NO_WHAT) {
            for (int size : SIZES) {
                refused("count(" + what + "), with " + size, size, INDEX, x -> x.count(what));
            }
        }
        due("0 is allowed", thrown(bookOf(0), x -> x.count(0)), null);
        due("8 is allowed", thrown(bookOf(0), x -> x.count(8)), null);
    }

    private static void wouldNoWhose() {
        for (int whose : new int[] {-1, 2, LEAST, MOST}) {
            refused("would(0, 1, 2, " + whose + ")", 2, INDEX, x -> x.would(0, 1, WINS, whose));
            refused("would(11, 0, 0, " + whose + ")", 12, INDEX, x -> x.would(11, 0, LOSES, whose));
        }
        due("0 is allowed", thrown(bookOf(2), x -> x.would(0, 1, WINS, 0)), null);
        due("1 is allowed", thrown(bookOf(2), x -> x.would(0, 1, WINS, 1)), null);
    }

    private static void wouldTheSame() {
        for (int who : new int[] {0, 5, 11}) {
            refused("of a, " + who, 12, ARGUMENT, x -> x.would(who, who, EVEN, 0));
            refused("of b, " + who, 12, ARGUMENT, x -> x.would(who, who, EVEN, 1));
        }
        refused("one alone", 1, ARGUMENT, x -> x.would(0, 0, WINS, 0));
    }

    private static void wouldNoResult() {
        for (int result : NO_RESULTS) {
            refused("of a, " + result, 2, ARGUMENT, x -> x.would(0, 1, result, 0));
            refused("of b, " + result, 2, ARGUMENT, x -> x.would(0, 1, result, 1));
        }
        due("0 is allowed", thrown(bookOf(2), x -> x.would(0, 1, 0, 1)), null);
        due("2 is allowed", thrown(bookOf(2), x -> x.would(0, 1, 2, 1)), null);
    }

    private static void chanceTheSame() {
        for (int who : new int[] {0, 5, 11}) {
            refused("1 win, " + who, 12, ARGUMENT, x -> x.chance(who, who, 1));
            refused("9 wins, " + who, 12, ARGUMENT, x -> x.chance(who, who, 9));
        }
        refused("one alone", 1, ARGUMENT, x -> x.chance(0, 0, 1));
    }

    private static void chanceNoWins() {
        for (int wins : NO_WINS) {
            refused("chance(0, 1, " + wins + ")", 2, ARGUMENT, x -> x.chance(0, 1, wins));
            refused("chance(11, 0, " + wins + ")", 12, ARGUMENT, x -> x.chance(11, 0, wins));
        }
        due("1 is allowed", thrown(bookOf(2), x -> x.chance(0, 1, 1)), null);
        due("9 is allowed", thrown(bookOf(2), x -> x.chance(0, 1, 9)), null);
    }

    private static void foreseeNoBouts() {
        for (int bouts : new int[] {0, 41, -1, LEAST, MOST}) {
            for (int size : SIZES) {
                refused("foresee(" + bouts + "), with " + size, size, ARGUMENT, x -> x.foresee(bouts));
            }
        }
        for (int size : SIZES) {
            due("1 is allowed, with " + size, thrown(bookOf(size), x -> x.foresee(1)), null);
            due("40 is allowed, with " + size, thrown(bookOf(size), x -> x.foresee(40)), null);
        }
    }

    private static void joinFirstNamed() {
        for (int league : NO_LEAGUES) {
            refused("no such league, and 12 there", 12, ARGUMENT, x -> x.join(league));
        }
    }

    private static void rateFirstNamed() {
        for (int rating : NO_RATINGS) {
            refused("nobody there, and no rating", 0, INDEX, x -> x.rate(0, rating));
            refused("12 of 12, and no rating", 12, INDEX, x -> x.rate(12, rating));
            refused("-1 of 12, and no rating", 12, INDEX, x -> x.rate(-1, rating));
        }
    }

    private static void boutFirstNamed() {
        for (int no : new int[] {-1, 2, LEAST, MOST}) {
            refused("no such a, no result", 2, INDEX, x -> x.bout(no, 0, 3));
            refused("no such b, no result", 2, INDEX, x -> x.bout(0, no, -1));
            refused("no such one, both the same", 2, INDEX, x -> x.bout(no, no, WINS));
            refused("no such one, both the same, no result", 2, INDEX, x -> x.bout(no, no, 3));
        }
        refused("nobody there", 0, INDEX, x -> x.bout(0, 0, 3));
        refused("both the same, no result", 2, ARGUMENT, x -> x.bout(1, 1, 3));
    }

    private static void wouldFirstNamed() {
        for (int no : new int[] {-1, 2, LEAST, MOST}) {
            refused("no such a, no result", 2, INDEX, x -> x.would(no, 0, 3, 0));
            refused("no such b, no result", 2, INDEX, x -> x.would(0, no, -1, 1));
            refused("no such one, both the same", 2, INDEX, x -> x.would(no, no, WINS, 0));
            refused("no whose, both the same", 2, INDEX, x -> x.would(1, 1, WINS, no));
            refused("no whose, no result", 2, INDEX, x -> x.would(0, 1, 3, no));
            refused("no whose, both the same, no result", 2, INDEX, x -> x.would(0, 0, -1, no));
            refused("nothing of it", 2, INDEX, x -> x.would(no, no, no == 2 ? 3 : no, no));
        }
        refused("both the same, no result", 2, ARGUMENT, x -> x.would(1, 1, 3, 1));
    }

    private static void chanceFirstNamed() {
        for (int no : new int[] {-1, 2, LEAST, MOST}) {
            refused("no such a, no wins", 2, INDEX, x -> x.chance(no, 0, 0));
            refused("no such b, no wins", 2, INDEX, x -> x.chance(0, no, 10));
            refused("no such one, both the same", 2, INDEX, x -> x.chance(no, no, 1));
            refused("no such one, both the same, no wins", 2, INDEX, x -> x.chance(no, no, 0));
        }
        refused("both the same, no wins", 2, ARGUMENT, x -> x.chance(1, 1, 0));
    }

    private static void refusedChangesNothing() {
        // Many refused calls on one book: what one alone would not show, all of them do.
        WrestleBook book = bookOf(12);
        WrestleBook twin = bookOf(12);
        Call[] calls = {x -> x.join(0), x -> x.join(3), x -> x.rate(0, 99), x -> x.rate(11, 3001),
            x -> x.rate(12, 2000), x -> x.bout(0, 12, WINS), x -> x.bout(12, 0, LOSES), x -> x.bout(3, 3, WINS),
            x -> x.bout(0, 1, 3), x -> x.bout(0, 1, -1), x -> x.would(0, 1, WINS, 2), x -> x.would(0, 1, 3, 0),
            x -> x.chance(0, 1, 10), x -> x.chance(0, 1, 0), x -> x.chance(4, 4, 3), x -> x.told(0, 9),
            x -> x.at(0, 0), x -> x.at(0, 13), x -> x.count(9), x -> x.match(12), x -> x.foresee(41),
            x -> x.foresee(0)};
        for (Call call : calls) {
            must("it is refused", thrown(book, call) != null);
        }
        dueText("all that is told", told(book, 12), told(twin, 12));
        dueText("what comes then", sequel(book, 12), sequel(twin, 12));
    }

    // ---- promises 1 to 5: wrestlers and bouts

    private static void emptyBook() {
        WrestleBook book = new WrestleBook();
        for (int what = 0; what <= 8; what++) {
            due("count(" + what + ")", book.count(what), 0);
        }
        due("next()", book.next(), -1);
        due("foresee(40)", book.foresee(40), 0);
        dueDouble("mean()", book.mean(), 0.0);
        for (int league = 0; league <= 2; league++) {
            int in = league;
            dueThrow("at(" + in + ", 1)", book, INDEX, x -> x.at(in, 1));
        }
        book.join(0);
        book.end();
        WrestleBook other = new WrestleBook();
        due("a new one is empty beside another one", other.count(1), 0);
        due("and in the season 0", other.count(0), 0);
    }

    private static void joinReturns() {
        WrestleBook book = new WrestleBook();
        for (int number = 0; number < 12; number++) {
            due("in the league 2", book.join(2), number);
        }
        WrestleBook later = leagues(0, 1);
        later.bout(1, 0, WINS);
        later.end();
        due("behind a season", later.join(1), 2);
    }

    private static void rateReturns() {
        WrestleBook book = leagues(0, 0);
        due("at first", book.rate(0, 100), 1000);
        due("the lowest one", book.rate(0, 3000), 100);
        due("the highest one", book.rate(0, 3000), 3000);
        due("the same again", book.rate(0, 1500), 3000);
        book.rate(1, 1500);
        book.bout(0, 1, WINS);
        due("behind a bout", book.rate(0, 1000), 1520);
        due("of who lost", book.rate(1, 1000), 1480);
        due("bouts stay", book.told(0, 3), 1);
        due("points stay", book.told(0, 2), 2);
        due("the row stays", book.told(0, 5), 1);
    }

    private static void boutReturns() {
        due("greater", rated(1000, 1000).bout(0, 1, WINS), 20);
        due("less", rated(1000, 1000).bout(0, 1, LOSES), -20);
        due("as it was", rated(1000, 1000).bout(0, 1, EVEN), 0);
        due("of a, who is not the first one", rated(1000, 1100).bout(1, 0, WINS), 14);
        due("held at 3000", rated(2999, 2999).bout(0, 1, WINS), 1);
        due("held at 100", rated(101, 101).bout(0, 1, LOSES), -1);
        due("the most", rated(100, 3000).bout(0, 1, WINS), 39);
        due("the least", rated(3000, 100).bout(0, 1, LOSES), -39);
        WrestleBook full = bookOf(12);
        full.rate(11, 1000);
        full.rate(10, 1000);
        int weight = full.told(11, 8);
        due("the last two of a full book", full.bout(11, 10, WINS), weight / 2);
    }

    private static void endReturns() {
        WrestleBook none = leagues(0, 1, 2);
        due("none", none.end(), 0);
        WrestleBook first = leagues(0, 1, 2);
        first.bout(1, 0, WINS);
        due("one, into the league 0", first.end(), 1);
        dueLeagues(first, 1, 0, 2);
        WrestleBook second = leagues(0, 1, 2);
        second.bout(0, 1, WINS);
        second.bout(2, 1, WINS);
        due("one, into the league 1", second.end(), 1);
        dueLeagues(second, 0, 2, 1);
        WrestleBook both = leagues(0, 1, 1, 2);
        both.bout(1, 0, WINS);
        both.bout(3, 2, WINS);
        both.rate(0, 1200);
        due("two", both.end(), 2);
        dueLeagues(both, 1, 0, 2, 1);
    }

    private static void endOfSizes() {
        WrestleBook nobody = new WrestleBook();
        due("nobody", nobody.end(), 0);
        due("the season", nobody.count(0), 1);
        due("still nobody", nobody.count(1), 0);
        for (int league = 0; league <= 2; league++) {
            WrestleBook alone = leagues(league);
            alone.rate(0, 3000);
            due("alone", alone.end(), 0);
            due("alone, the league", alone.told(0, 1), league);
            due("alone, the rating", alone.told(0, 0), 2750);
        }
        WrestleBook full = leagues(0, 0, 0, 0, 1, 1, 1, 1, 2, 2, 2, 2);
        full.bout(7, 3, WINS);
        full.bout(11, 4, WINS);
        full.rate(4, 900);
        full.rate(3, 900);
        full.rate(5, 800);
        due("full, two go up", full.end(), 2);
        dueLeagues(full, 0, 0, 0, 1, 1, 2, 1, 0, 2, 2, 2, 1);
        WrestleBook oneLeague = leagues(2, 2, 2, 2, 2, 2, 2, 2, 2, 2, 2, 2);
        oneLeague.bout(11, 0, WINS);
        due("full, in one league", oneLeague.end(), 0);
        due("full, in the league 2", oneLeague.count(6), 12);
    }

    // ---- promises 6 to 9: what there is

    private static void expectedOfTheSame() {
        for (int rating : new int[] {100, 1000, 3000}) {
            due("alone with " + rating, rated(rating).expected(0, 0), 500);
        }
        due("the last one of a full book", bookOf(12).expected(11, 11), 500);
    }

    private static void placeFrom1() {
        for (int league = 0; league <= 2; league++) {
            due("alone", leagues(league).told(0, 7), 1);
            due("alone in the league", leagues((league + 1) % 3, league, (league + 2) % 3).told(1, 7), 1);
        }
        WrestleBook full = leagues(1, 1, 1, 1, 1, 1, 1, 1, 1, 1, 1, 1);
        due("first of 12", full.told(0, 7), 1);
        due("last of 12", full.told(11, 7), 12);
        full.rate(11, 1001);
        due("12 goes ahead", full.told(11, 7), 1);
        due("and the others behind", full.told(10, 7), 12);
    }

    private static void atFrom1() {
        for (int league = 0; league <= 2; league++) {
            due("alone", leagues(league).at(league, 1), 0);
        }
        WrestleBook full = bookOf(12);
        for (int league = 0; league <= 2; league++) {
            int places = full.count(4 + league);
            for (int place = 1; place <= places; place++) {
                int who = full.at(league, place);
                due("who is there has this league", full.told(who, 1), league);
                due("and this place", full.told(who, 7), place);
            }
        }
    }

    private static void countOfLeagues() {
        WrestleBook book = new WrestleBook();
        for (int joined = 0; joined <= 12; joined++) {
            due("in the league 0", book.count(4), (joined + 2) / 3);
            due("in the league 1", book.count(5), (joined + 1) / 3);
            due("in the league 2", book.count(6), joined / 3);
            due("wrestlers", book.count(1), joined);
            if (joined < 12) {
                book.join(joined % 3);
            }
        }
        for (int league = 0; league <= 2; league++) {
            WrestleBook full = leagues(league, league, league, league, league, league, league, league, league,
                league, league, league);
            for (int other = 0; other <= 2; other++) {
                due("all in one", full.count(4 + other), other == league ? 12 : 0);
            }
        }
    }

    private static void countOfRatings() {
        due("highest, nobody", new WrestleBook().count(7), 0);
        due("lowest, nobody", new WrestleBook().count(8), 0);
        for (int rating : new int[] {100, 1000, 3000}) {
            due("highest, alone", rated(rating).count(7), rating);
            due("lowest, alone", rated(rating).count(8), rating);
        }
        WrestleBook ends = rated(1000, 3000, 100, 1000);
        due("highest", ends.count(7), 3000);
        due("lowest", ends.count(8), 100);
        WrestleBook full = leagues(0, 1, 2, 0, 1, 2, 0, 1, 2, 0, 1, 2);
        full.rate(0, 999);
        full.rate(11, 1001);
        due("highest, the last of 12", full.count(7), 1001);
        due("lowest, the first of 12", full.count(8), 999);
        full.rate(11, 998);
        due("lowest, the last of 12", full.count(8), 998);
        due("highest now, and not ever", full.count(7), 1000);
    }

    private static void countOfAll() {
        WrestleBook book = rated(1000, 1100);
        book.bout(0, 1, WINS);
        book.end();
        due("upsets of a season before", book.count(3), 1);
        due("bouts of a season before", book.count(2), 1);
        book.would(0, 1, WINS, 0);
        book.foresee(40);
        due("bouts that would be do not count", book.count(2), 1);
        due("nor their upsets", book.count(3), 1);
        due("the season", book.count(0), 1);
        book.join(0);
        due("wrestlers", book.count(1), 3);
    }

    // ---- promises 10 to 16: what would be

    private static void wouldWhose() {
        // 640 and 360 are expected, 40 and 40.
        WrestleBook book = rated(1100, 1000);
        dueWould(book, WINS, 14, -14);
        dueWould(book, EVEN, -5, 5);
        dueWould(book, LOSES, -25, 25);
        // The own weights: 20 for the first two, 40 for who is new.
        WrestleBook mixed = veterans(1000, 1000);
        mixed.join(1);
        due("20 of a", mixed.would(0, 2, WINS, 0), 10);
        due("40 of b", mixed.would(0, 2, WINS, 1), -20);
        due("40 of a", mixed.would(2, 0, WINS, 0), 20);
        due("20 of b", mixed.would(2, 0, WINS, 1), -10);
    }

    private static void wouldAtTheBounds() {
        dueWould(rated(3000, 3000), WINS, 0, -20);
        dueWould(rated(2999, 2999), WINS, 1, -20);
        dueWould(rated(2980, 2980), WINS, 20, -20);
        dueWould(rated(2990, 2990), LOSES, -20, 10);
        dueWould(rated(100, 100), WINS, 20, 0);
        dueWould(rated(101, 101), WINS, 20, -1);
        dueWould(rated(120, 120), WINS, 20, -20);
        dueWould(rated(110, 110), LOSES, -10, 20);
        dueWould(rated(3000, 100), LOSES, -39, 39);
        dueWould(rated(3000, 100), WINS, 0, 0);
    }

    private static void askingChangesNothing() {
        Call[] calls = {x -> x.expected(0, 1), x -> x.told(1, 8), x -> x.at(0, 1), x -> x.count(3),
            x -> x.would(0, 1, WINS, 0), x -> x.would(1, 0, LOSES, 1), x -> x.chance(0, 1, 9), x -> x.match(0),
            x -> x.next(), x -> x.foresee(1), x -> x.foresee(40), x -> (long) x.mean(), x -> x.digest()};
        for (Call call : calls) {
            for (int size : new int[] {2, 12}) {
                WrestleBook book = bookOf(size);
                WrestleBook twin = bookOf(size);
                long once = call.on(book);
                due("it answers the same again", call.on(book), once);
                dueText("all that is told", told(book, size), told(twin, size));
                dueText("what comes then", sequel(book, size), sequel(twin, size));
            }
        }
    }

    private static void chanceOfOneWin() {
        // (expected * 1000000 + (1000 - expected) * 0) / 1000.
        int[][] rows = {{1000, 1000, 500000, 500000}, {1001, 1000, 501000, 499000}, {1800, 1000, 990000, 10000},
            {3000, 100, 990000, 10000}, {1100, 1000, 640000, 360000}};
        for (int[] row : rows) {
            WrestleBook book = rated(row[0], row[1]);
            due("of a", book.chance(0, 1, 1), row[2]);
            due("of b", book.chance(1, 0, 1), row[3]);
        }
    }

    private static void chanceOfWins() {
        WrestleBook far = rated(3000, 100);
        int[][] rows = {{9, 999991, 0}, {1, 990000, 10000}, {2, 999702, 298}, {8, 999992, 0}};
        for (int[] row : rows) {
            due("a, wins " + row[0], far.chance(0, 1, row[0]), row[1]);
            due("b, wins " + row[0], far.chance(1, 0, row[0]), row[2]);
        }
        WrestleBook near = rated(1100, 1000);
        due("9 wins of a", near.chance(0, 1, 9), 884082);
        due("9 wins of b", near.chance(1, 0, 9), 115906);
        due("9 wins of as high ones", rated(1000, 1000).chance(0, 1, 9), 499997);
        for (int d = 0; d <= 900; d += 37) {
            WrestleBook book = rated(1500, 1500 - d);
            for (int wins = 1; wins <= 9; wins++) {
                due("d " + d + ", wins " + wins, book.chance(0, 1, wins), f(book.expected(0, 1), wins, wins));
                due("d -" + d + ", wins " + wins, book.chance(1, 0, wins), f(book.expected(1, 0), wins, wins));
            }
        }
    }

    private static long f(long expected, int i, int j) {
        if (i == 0) {
            return 1000000;
        }
        return j == 0 ? 0 : (expected * f(expected, i - 1, j) + (1000 - expected) * f(expected, i, j - 1)) / 1000;
    }

    private static void matchWithoutOne() {
        for (int league = 0; league <= 2; league++) {
            due("alone in the book", leagues(league).match(0), -1);
        }
        WrestleBook apart = leagues(0, 1, 2);
        for (int who = 0; who < 3; who++) {
            due("alone in the league", apart.match(who), -1);
        }
        apart.join(1);
        due("two in the league", apart.match(1), 3);
        due("and the other way", apart.match(3), 1);
        due("the others are alone still", apart.match(0), -1);
        WrestleBook full = leagues(0, 1, 1, 1, 1, 1, 1, 1, 1, 1, 1, 1);
        due("alone beside 11", full.match(0), -1);
    }

    private static void matchMostEven() {
        WrestleBook book = rated(1000, 1002, 1001);
        due("501 before 502", book.match(0), 2);
        WrestleBook below = rated(1000, 1003, 998);
        due("less than 500 as well as more", below.match(0), 2);
        WrestleBook far = rated(1000, 1800, 1799);
        due("989 before 990", far.match(0), 2);
        WrestleBook same = rated(1000, 1500, 1000);
        due("as high", same.match(0), 2);
        WrestleBook other = leagues(0, 1, 0);
        other.rate(2, 3000);
        due("not one of another league", other.match(0), 2);
        due("not itself", other.match(2), 0);
        WrestleBook full = leagues(0, 0, 0, 0, 0, 0, 0, 0, 0, 0, 0, 0);
        full.rate(11, 1400);
        full.rate(0, 1399);
        due("the last of 12", full.match(0), 11);
    }

    private static void matchSmallestNumber() {
        due("all as high", leagues(0, 0, 0).match(2), 0);
        due("all as high, of the first one", leagues(0, 0, 0).match(0), 1);
        due("100 less and 100 more", rated(1000, 1100, 900).match(0), 1);
        due("100 more and 100 less", rated(1000, 900, 1100).match(0), 1);
        due("one smaller, one greater", rated(1100, 1000, 900).match(1), 0);
        due("800 and 801", rated(1000, 1801, 1800).match(0), 1);
        due("800 and 2000", rated(1000, 3000, 1800).match(0), 1);
        // 760 + 89 * 1 / 100 is 760, so that 200 and 201 are as even.
        due("201 and 200", rated(1000, 1201, 1200).match(0), 1);
    }

    private static void nextWithoutOne() {
        due("nobody", new WrestleBook().next(), -1);
        for (int league = 0; league <= 2; league++) {
            due("alone", leagues(league).next(), -1);
        }
        due("two apart", leagues(0, 1).next(), -1);
        due("three apart", leagues(2, 1, 0).next(), -1);
        due("two in one league", leagues(2, 2).next(), 1);
    }

    private static void nextPairs() {
        due("0 and 1", leagues(1, 1).next(), 1);
        due("0 and 2", leagues(1, 0, 1).next(), 2);
        due("1 and 2", leagues(1, 0, 0).next(), 14);
        for (int first = 0; first < 12; first++) {
            for (int second = first + 1; second < 12; second++) {
                // All others have a bout, so that these two have the fewest.
                WrestleBook full = leagues(0, 0, 0, 0, 0, 0, 0, 0, 0, 0, 0, 0);
                meetAllBut(full, first, second);
                due(first + " and " + second, full.next(), 12 * first + second);
            }
        }
    }

    private static void meetAllBut(WrestleBook book, int first, int second) {
        int before = -1;
        for (int who = 0; who < 12; who++) {
            if (who == first || who == second) {
                continue;
            }
            if (before >= 0) {
                book.bout(before, who, EVEN);
            }
            before = who;
        }
    }

    private static void nextFewestBouts() {
        // Bouts with 3, who is in another league: 0 has 2, 1 has 1, 2 has none.
        WrestleBook book = leagues(0, 0, 0, 2);
        hold(book, 0, 3, EVEN, 2);
        hold(book, 3, 1, EVEN, 1);
        book.rate(0, 1000);
        book.rate(1, 1000);
        book.rate(2, 3000);
        due("1 before 2 and before 3 bouts, though less even", book.next(), 14);
        hold(book, 2, 3, EVEN, 2);
        book.rate(2, 3000);
        // 0 has 2, 1 has 1, 2 has 2: the pairs have 3, 4 and 3.
        due("as few: the more even one", book.next(), 1);
        book.rate(2, 1000);
        book.rate(0, 3000);
        due("as few: the other one", book.next(), 14);
    }

    private static void nextBothAdded() {
        // 4 gives bouts to the pairs of the leagues 0 and 1, and has nobody in its own league.
        WrestleBook book = leagues(0, 0, 1, 1, 2);
        hold(book, 0, 4, EVEN, 3);
        hold(book, 2, 4, EVEN, 2);
        hold(book, 3, 4, EVEN, 2);
        due("3 and 0 before 2 and 2", book.next(), 1);
        hold(book, 1, 4, EVEN, 2);
        due("2 and 2 before 3 and 2", book.next(), 2 * 12 + 3);
        WrestleBook other = leagues(0, 0, 1, 1, 2);
        hold(other, 0, 4, EVEN, 4);
        hold(other, 2, 4, EVEN, 1);
        hold(other, 3, 4, EVEN, 2);
        due("1 and 2 before 4 and 0", other.next(), 2 * 12 + 3);
    }

    private static void nextOfTheSeason() {
        WrestleBook book = leagues(0, 0, 0);
        hold(book, 0, 1, EVEN, 5);
        due("5 and 0 before 5 and 5", book.next(), 2);
        book.end();
        due("a season later they have none", book.next(), 1);
        book.bout(0, 1, EVEN);
        due("1 and 0 before 1 and 1", book.next(), 2);
    }

    private static void nextMostEven() {
        due("0 and 2", rated(1000, 1002, 1001).next(), 2);
        due("1 and 2", rated(1000, 1202, 1100).next(), 2);
        due("989 before 990", rated(100, 900, 1699).next(), 14);
        WrestleBook apart = leagues(0, 0, 1, 1);
        apart.rate(0, 1002);
        apart.rate(2, 1001);
        due("of all leagues", apart.next(), 2 * 12 + 3);
    }

    private static void nextSmallest() {
        due("all as even", leagues(0, 0, 0).next(), 1);
        due("the smaller first number", leagues(1, 0, 0, 1).next(), 3);
        due("the smaller second number", rated(1000, 3000, 1000, 1000).next(), 2);
        due("800 and more are as even", rated(1000, 3000, 100).next(), 1);
        due("100 more and 100 less", rated(1000, 900, 1100).next(), 1);
        due("a full book", leagues(2, 2, 2, 2, 2, 2, 2, 2, 2, 2, 2, 2).next(), 1);
    }

    private static void foresee1To40() {
        WrestleBook book = rated(1000, 1000);
        int[][] rows = {{1, 1020}, {2, 1037}, {9, 1117}, {10, 1125}, {11, 1128}, {38, 1190}, {39, 1192}, {40, 1194}};
        for (int[] row : rows) {
            due("foresee(" + row[0] + ")", book.foresee(row[0]), row[1]);
        }
        due("foresee(1) again", book.foresee(1), 1020);
        WrestleBook full = leagues(0, 0, 0, 0, 0, 0, 0, 0, 0, 0, 0, 0);
        int[][] fullRows = {{1, 1020}, {6, 1020}, {7, 1040}, {40, 1114}};
        for (int[] row : fullRows) {
            due("full: foresee(" + row[0] + ")", full.foresee(row[0]), row[1]);
        }
    }

    private static void foreseeWhoWins() {
        // 514 is expected of the higher one with 10 more: 40 * 486 is 19440.
        due("the first one is higher", rated(1010, 1000).foresee(1), 1029);
        due("the second one is higher", rated(1000, 1010).foresee(1), 1029);
        due("by one", rated(1000, 1001).foresee(1), 1020);
        due("as high", rated(1000, 1000).foresee(1), 1020);
        // As high, but one with a weight of 20 and one of 40, so that the answer tells who won.
        WrestleBook old = leagues(0, 2);
        hold(old, 0, 1, EVEN, 10);
        old.end();
        old.join(0);
        due("as high, the first one has 20", old.foresee(1), 1010);
        WrestleBook young = leagues(0, 0, 2);
        hold(young, 1, 2, EVEN, 10);
        young.end();
        due("as high, the first one has 40", young.foresee(1), 1020);
    }

    private static void foreseeHighest() {
        due("nobody, once", new WrestleBook().foresee(1), 0);
        due("nobody, 40 times", new WrestleBook().foresee(40), 0);
        WrestleBook other = leagues(0, 0, 1);
        other.rate(2, 2000);
        due("one who does not fight", other.foresee(40), 2000);
        WrestleBook top = rated(2990, 2985);
        due("held at 3000", top.foresee(1), 3000);
        due("held at 3000, 40 times", top.foresee(40), 3000);
        due("none falls under 100", rated(100, 100).foresee(1), 120);
        WrestleBook past = rated(1000, 1000);
        past.rate(0, 3000);
        past.rate(0, 1000);
        due("not the best one ever", past.foresee(1), 1020);
    }

    private static void foreseeOver() {
        for (int rating : new int[] {100, 1000, 3000}) {
            due("one alone, once", rated(rating).foresee(1), rating);
            due("one alone, 40 times", rated(rating).foresee(40), rating);
        }
        WrestleBook apart = leagues(0, 1, 2);
        apart.rate(1, 1600);
        due("three apart, once", apart.foresee(1), 1600);
        due("three apart, 40 times", apart.foresee(40), 1600);
    }

    private static void foreseeAsHeld() {
        for (int bouts = 1; bouts <= 40; bouts++) {
            due("two, " + bouts, rated(1000, 1000).foresee(bouts), held(rated(1000, 1000), bouts));
            due("over 2000, " + bouts, veterans(1995, 1990).foresee(bouts), held(veterans(1995, 1990), bouts));
            due("three, " + bouts, rated(900, 1000, 990).foresee(bouts), held(rated(900, 1000, 990), bouts));
            due("full, " + bouts, bookOf(12).foresee(bouts), held(bookOf(12), bouts));
            due("eleven, " + bouts, bookOf(11).foresee(bouts), held(bookOf(11), bouts));
        }
    }

    /** The highest rating behind such bouts, held one by one. */
    private static int held(WrestleBook book, int bouts) {
        for (int i = 0; i < bouts; i++) {
            int pair = book.next();
            if (pair < 0) {
                break;
            }
            boolean firstWins = book.told(pair / 12, 0) >= book.told(pair % 12, 0);
            book.bout(pair / 12, pair % 12, firstWins ? WINS : LOSES);
        }
        return book.count(7);
    }

    private static void meanOfSizes() {
        dueDouble("nobody", new WrestleBook().mean(), 0.0);
        dueDouble("alone", rated(100).mean(), 100.0);
        dueDouble("alone", rated(3000).mean(), 3000.0);
        dueDouble("a half", rated(1001, 1000).mean(), 1000.5);
        dueDouble("a third", rated(1000, 1000, 1001).mean(), 3001.0 / 3.0);
        dueDouble("full of 100", full(100).mean(), 100.0);
        dueDouble("full of 3000", full(3000).mean(), 3000.0);
        WrestleBook book = full(1000);
        book.rate(11, 1001);
        dueDouble("a twelfth", book.mean(), 12001.0 / 12.0);
        dueDouble("all leagues", leagues(0, 1, 2).mean(), 1000.0);
    }

    private static void digestWraps() {
        due("nobody: it does not wrap", new WrestleBook().digest(), 1341731505787571236L);
        due("one alone: it wraps to less than 0", leagues(0).digest(), -8815609584585682013L);
        due("two: it wraps to more than 0", leagues(0, 0).digest(), 710064159213430023L);
        due("a full book", full(1000).digest(), -317895301678496148L);
        due("a full book of 3000", full(3000).digest(), -1583846889672092564L);
    }

    private static void digestOfAll() {
        for (int size = 0; size <= 12; size++) {
            WrestleBook book = bookOf(size);
            due("with " + size, book.digest(), digestByHand(book, size));
        }
    }

    private static long digestByHand(WrestleBook book, int size) {
        BigInteger d = BigInteger.valueOf(1637);
        for (int what = 0; what <= 8; what++) {
            d = digested(d, book.count(what));
        }
        for (int who = 0; who < size; who++) {
            for (int what = 0; what <= 8; what++) {
                d = digested(d, book.told(who, what));
            }
        }
        return digested(d, book.next()).longValue();
    }

    private static BigInteger digested(BigInteger d, int x) {
        return d.multiply(BigInteger.valueOf(31)).add(BigInteger.valueOf(x));
    }

    // ---- books

    private static WrestleBook leagues(int... leagues) {
        WrestleBook book = new WrestleBook();
        for (int league : leagues) {
            book.join(league);
        }
        return book;
    }

    /** All in the league 0, with these ratings. */
    private static WrestleBook rated(int... ratings) {
        WrestleBook book = new WrestleBook();
        for (int rating : ratings) {
            book.rate(book.join(0), rating);
        }
        return book;
    }

    private static WrestleBook full(int rating) {
        return rated(rating, rating, rating, rating, rating, rating, rating, rating, rating, rating, rating, rating);
    }

    /** Two in the league 0 whose first 10 bouts are over, with these ratings. */
    private static WrestleBook veterans(int first, int second) {
        WrestleBook book = rated(1000, 1000);
        hold(book, 0, 1, EVEN, 10);
        rateBoth(book, first, second);
        return book;
    }

    /** A book of so many with a season behind it and bouts in the one that goes on, so that nothing in it is 0. */
    private static WrestleBook bookOf(int size) {
        WrestleBook book = new WrestleBook();
        for (int who = 0; who < size; who++) {
            book.join(who * who % 3 == 0 ? 0 : who % 2 + 1);
            book.rate(who, 1000 + 97 * who % 350);
        }
        if (size > 1) {
            hold(book, 0, 1, WINS, 11);
            book.bout(size - 1, 0, EVEN);
            book.end();
        }
        for (int who = 1; who < size; who++) {
            book.bout(who, who - 1, who % 3);
        }
        return book;
    }

    private static void rateBoth(WrestleBook book, int first, int second) {
        book.rate(0, first);
        book.rate(1, second);
    }

    private static void hold(WrestleBook book, int a, int b, int result, int times) {
        for (int i = 0; i < times; i++) {
            book.bout(a, b, result);
        }
    }

    // ---- what is due

    private interface Call {
        long on(WrestleBook book);
    }

    private static void test(String words, Runnable run) {
        sentence = words;
        sentences++;
        int before = checks;
        try {
            run.run();
        } catch (RuntimeException e) {
            must("it throws " + e, false);
        }
        must("it checks something", checks > before);
    }

    private static void must(String what, boolean holds) {
        checks++;
        if (!holds) {
            wrong++;
            System.out.println("\"" + sentence + "\": " + what);
        }
    }

    private static void due(String call, long got, long want) {
        must(call + ": " + got + ", due is " + want, got == want);
    }

    private static void due(String call, Class<?> got, Class<?> want) {
        must(call + ": throws " + got + ", due is " + want, got == want);
    }

    private static void dueDouble(String call, double got, double want) {
        must(call + ": " + got + ", due is " + want, got == want);
    }

    private static void dueText(String call, String got, String want) {
        must(call + ":\n" + got + "due is\n" + want, got.equals(want));
    }

    private static void dueThrow(String call, WrestleBook book, Class<?> want, Call run) {
        due(call, thrown(book, run), want);
    }

    /** What the call throws on such a book, and that this book is then as one that has not been called. */
    private static void refused(String call, int size, Class<?> want, Call run) {
        WrestleBook book = bookOf(size);
        WrestleBook twin = bookOf(size);
        due(call, thrown(book, run), want);
        dueText(call + ", all that is told", told(book, size), told(twin, size));
        dueText(call + ", what comes then", sequel(book, size), sequel(twin, size));
    }

    private static Class<?> thrown(WrestleBook book, Call run) {
        try {
            run.on(book);
            return null;
        } catch (RuntimeException e) {
            return e.getClass();
        }
    }

    private static String told(WrestleBook book, int size) {
        StringBuilder all = new StringBuilder();
        for (int what = 0; what <= 8; what++) {
            all.append(book.count(what)).append(' ');
        }
        for (int who = 0; who < size; who++) {
            all.append('\n').append(who).append(": ");
            for (int what = 0; what <= 8; what++) {
                all.append(book.told(who, what)).append(' ');
            }
            all.append(book.match(who));
        }
        all.append('\n').append(book.next()).append(' ').append(book.foresee(1)).append(' ');
        all.append(book.foresee(40)).append(' ').append(book.mean()).append(' ').append(book.digest());
        return all.append('\n').toString();
    }

    /** Calls that change the book, and all that is told behind them. */
    private static String sequel(WrestleBook book, int size) {
        StringBuilder all = new StringBuilder();
        for (int who = 1; who < size; who++) {
            all.append(book.bout(who - 1, who, who % 3)).append(' ');
        }
        all.append(book.end()).append(' ');
        boolean room = size < 12;
        if (room) {
            all.append(book.join(1)).append(' ');
        }
        return all.append(told(book, room ? size + 1 : size)).toString();
    }

    private static void dueWould(WrestleBook book, int result, int ofA, int ofB) {
        due("would, result " + result + ", of a", book.would(0, 1, result, 0), ofA);
        due("would, result " + result + ", of b", book.would(0, 1, result, 1), ofB);
        due("turned, of a", book.would(1, 0, 2 - result, 1), ofA);
        due("turned, of b", book.would(1, 0, 2 - result, 0), ofB);
    }

    private static void dueSeason(WrestleBook book, int who, int points, int bouts, int row) {
        due("points of " + who, book.told(who, 2), points);
        due("bouts in all of " + who, book.told(who, 3), bouts);
        due("bouts of the season of " + who, book.told(who, 4), bouts);
        due("row of " + who, book.told(who, 5), row);
    }

    private static void dueLeagues(WrestleBook book, int... leagues) {
        for (int who = 0; who < leagues.length; who++) {
            due("league of " + who, book.told(who, 1), leagues[who]);
        }
    }

    private static void dueOrder(WrestleBook book, int league, int... order) {
        for (int i = 0; i < order.length; i++) {
            due("at(" + league + ", " + (i + 1) + ")", book.at(league, i + 1), order[i]);
            due("place of " + order[i], book.told(order[i], 7), i + 1);
        }
        dueThrow("no place behind them", book, INDEX, x -> x.at(league, order.length + 1));
    }
}
