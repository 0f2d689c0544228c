import java.util.ArrayList;
import java.util.Comparator;
import java.util.List;
import java.util.Random;

/** Long runs of calls, each answer held against a second, plain writing of the document. */
public final class WrestleBookModel {
    private static final int BOOKS = 600;
    private static final int CALLS = 512;
    private static final String[] METHODS = {"join", "rate", "bout", "end", "expected", "told", "at", "count",
        "would", "chance", "match", "next", "foresee", "mean", "digest"};

    public static void main(String[] args) {
        for (int seed = 0; seed < BOOKS; seed++) {
            if (!runAgrees(seed)) {
                System.exit(1);
            }
        }
        System.out.println(BOOKS + " books agree with the model, " + CALLS + " calls each");
    }

    private static boolean runAgrees(int seed) {
        Random random = new Random(seed);
        WrestleBook book = new WrestleBook();
        Model model = new Model();
        int wrestlers = 1 + random.nextInt(13);
        int seasonLength = 5 + random.nextInt(60);
        int wild = 5 + random.nextInt(40);
        StringBuilder calls = new StringBuilder();
        for (int i = 0; i < CALLS; i++) {
            String method = pick(random, i < wrestlers, seasonLength);
            int[] args = arguments(random, method, model.all.size(), wild);
            String want = answer(() -> model.call(method, args));
            String got = answer(() -> call(book, method, args));
            calls.append(method).append(java.util.Arrays.toString(args)).append(" = ").append(got).append('\n');
            if (!got.equals(want)) {
                System.out.println(calls + "book " + seed + ": due is " + want);
                return false;
            }
        }
        return true;
    }

    private static String pick(Random random, boolean early, int seasonLength) {
        if (early) {
            return "join";
        }
        if (random.nextInt(seasonLength) == 0) {
            return "end";
        }
        if (random.nextInt(5) < 2) {
            return "bout";
        }
        if (random.nextInt(8) == 0) {
            return "digest";
        }
        int at = random.nextInt(METHODS.length);
        return METHODS[at].equals("end") ? "next" : METHODS[at];
    }

    private static int[] arguments(Random random, String method, int wrestlers, int wild) {
        int[] bounds;
        switch (method) {
            case "join":
                bounds = new int[] {0, 2};
                break;
            case "rate":
                bounds = random.nextBoolean() ? new int[] {0, wrestlers - 1, 100, 3000}
                    : new int[] {0, wrestlers - 1, 950, 1050};
                break;
            case "bout":
                bounds = new int[] {0, wrestlers - 1, 0, wrestlers - 1, 0, 2};
                break;
            case "expected":
                bounds = new int[] {0, wrestlers - 1, 0, wrestlers - 1};
                break;
            case "told":
                bounds = new int[] {0, wrestlers - 1, 0, 8};
                break;
            case "at":
                bounds = new int[] {0, 2, 1, 1 + wrestlers / 3};
                break;
            case "count":
                bounds = new int[] {0, 8};
                break;
            case "would":
                bounds = new int[] {0, wrestlers - 1, 0, wrestlers - 1, 0, 2, 0, 1};
                break;
            case "chance":
                bounds = new int[] {0, wrestlers - 1, 0, wrestlers - 1, 1, 9};
                break;
            case "match":
                bounds = new int[] {0, wrestlers - 1};
                break;
            case "foresee":
                bounds = new int[] {1, 40};
                break;
            default:
                bounds = new int[0];
        }
        int[] args = new int[bounds.length / 2];
        for (int i = 0; i < args.length; i++) {
            args[i] = argument(random, bounds[2 * i], bounds[2 * i + 1], wild);
        }
        return args;
    }

    private static int argument(Random random, int least, int most, int wild) {
        if (random.nextInt(wild) == 0) {
            int[] odd = {least - 1, most + 1, Integer.MIN_VALUE, Integer.MAX_VALUE, -least, least, most};
            return odd[random.nextInt(odd.length)];
        }
        return least + random.nextInt(Math.max(1, most - least + 1));
    }

    private interface Call {
        Object answer();
    }

    private static String answer(Call call) {
        try {
            return String.valueOf(call.answer());
        } catch (RuntimeException e) {
            return "throws." + e.getClass().getSimpleName();
        }
    }

    private static Object call(WrestleBook book, String method, int[] args) {
        switch (method) {
            case "join":
                return book.join(args[0]);
            case "rate":
                return book.rate(args[0], args[1]);
            case "bout":
                return book.bout(args[0], args[1], args[2]);
            case "end":
                return book.end();
            case "expected":
                return book.expected(args[0], args[1]);
            case "told":
                return book.told(args[0], args[1]);
            case "at":
                return book.at(args[0], args[1]);
            case "count":
                return book.count(args[0]);
            case "would":
                return book.would(args[0], args[1], args[2], args[3]);
            case "chance":
                return book.chance(args[0], args[1], args[2]);
            case "match":
                return book.match(args[0]);
            case "next":
                return book.next();
            case "foresee":
                return book.foresee(args[0]);
            case "mean":
                return book.mean();
            default:
                return book.digest();
        }
    }

    private static final class Wrestler {
        int number;
        int league;
        int rating = 1000;
        int best = 1000;
        int points;
        int bouts;
        int seasonBouts;
        int row;

        Wrestler copy() {
            Wrestler c = new Wrestler();
            c.number = number;
            c.league = league;
            c.rating = rating;
            c.bouts = bouts;
            c.seasonBouts = seasonBouts;
            return c;
        }

        int weight() {
            return bouts < 10 ? 40 : rating < 2000 ? 20 : 10;
        }

        void become(int to) {
            rating = to;
            best = to > best ? to : best;
        }

        void hold(int to, int gained) {
            become(to);
            points += gained;
            bouts++;
            seasonBouts++;
            row = gained == 2 ? row + 1 : 0;
        }
    }

    private static final class Model {
        List<Wrestler> all = new ArrayList<>();
        int season;
        int bouts;
        int upsets;

        Object call(String method, int[] x) {
            switch (method) {
                case "join":
                    return join(x[0]);
                case "rate":
                    return rate(x[0], x[1]);
                case "bout":
                    return bout(x[0], x[1], x[2]);
                case "end":
                    return end();
                case "expected":
                    return expected(of(x[0]), of(x[1]));
                case "told":
                    return told(of(x[0]), x[1]);
                case "at":
                    return league(index(x[0], 0, 2)).get(index(x[1], 1, league(x[0]).size()) - 1).number;
                case "count":
                    return count(x[0]);
                case "would":
                    return would(x[0], x[1], x[2], x[3]);
                case "chance":
                    return chance(x[0], x[1], x[2]);
                case "match":
                    return match(of(x[0]));
                case "next":
                    return next();
                case "foresee":
                    return foresee(argument(x[0], 1, 40));
                case "mean":
                    return mean();
                default:
                    return digest();
            }
        }

        static int index(int x, int least, int most) {
            if (x < least || x > most) {
                throw new IndexOutOfBoundsException();
            }
            return x;
        }

        static int argument(int x, int least, int most) {
            if (x < least || x > most) {
                throw new IllegalArgumentException();
            }
            return x;
        }

        Wrestler of(int number) {
            return all.get(index(number, 0, all.size() - 1));
        }

        int join(int league) {
            argument(league, 0, 2);
            if (all.size() == 12) {
                throw new IllegalStateException();
            }
            Wrestler w = new Wrestler();
            w.number = all.size();
            w.league = league;
            all.add(w);
            return w.number;
        }

        int rate(int number, int rating) {
            int before = of(number).rating;
            of(number).become(argument(rating, 100, 3000));
            return before;
        }

        static int expected(Wrestler a, Wrestler b) {
            int[] table = {500, 640, 760, 849, 909, 947, 969, 983, 990, 990};
            int d = Math.min(800, Math.abs(a.rating - b.rating));
            int higher = table[d / 100] + (table[d / 100 + 1] - table[d / 100]) * (d % 100) / 100;
            return a.rating >= b.rating ? higher : 1000 - higher;
        }

        static int behind(Wrestler who, Wrestler other, int gained) {
            int to = who.rating + who.weight() * (gained * 500 - expected(who, other)) / 1000;
            return to < 100 ? 100 : to > 3000 ? 3000 : to;
        }

        static void hold(Wrestler a, Wrestler b, int result) {
            int toA = behind(a, b, result);
            int toB = behind(b, a, 2 - result);
            a.hold(toA, result);
            b.hold(toB, 2 - result);
        }

        int bout(int a, int b, int result) {
            Wrestler first = of(a);
            Wrestler second = of(b);
            argument(result, 0, 2);
            argument(a == b ? 1 : 0, 0, 0);
            int before = first.rating;
            boolean upset = result == 2 && expected(first, second) < 400
                || result == 0 && expected(second, first) < 400;
            upsets += upset ? 1 : 0;
            bouts++;
            hold(first, second, result);
            return first.rating - before;
        }

        int would(int a, int b, int result, int whose) {
            Wrestler first = of(a);
            Wrestler second = of(b);
            index(whose, 0, 1);
            argument(result, 0, 2);
            argument(a == b ? 1 : 0, 0, 0);
            return whose == 0 ? behind(first, second, result) - first.rating
                : behind(second, first, 2 - result) - second.rating;
        }

        List<Wrestler> league(int league) {
            List<Wrestler> in = new ArrayList<>();
            for (Wrestler w : all) {
                if (w.league == league) {
                    in.add(w);
                }
            }
            in.sort(Comparator.<Wrestler>comparingInt(w -> -w.points).thenComparingInt(w -> -w.rating)
                .thenComparingInt(w -> w.number));
            return in;
        }

        int end() {
            for (Wrestler w : all) {
                if (w.seasonBouts < 3) {
                    w.become(w.rating - (w.rating - 1000) / 8);
                }
            }
            int up = 0;
            for (int league = 0; league <= 1; league++) {
                List<Wrestler> upper = league(league);
                List<Wrestler> lower = league(league + 1);
                if (upper.isEmpty() || lower.isEmpty()) {
                    continue;
                }
                Wrestler last = upper.get(upper.size() - 1);
                Wrestler first = lower.get(0);
                if (first.points > last.points) {
                    last.league++;
                    first.league--;
                    up++;
                }
            }
            for (Wrestler w : all) {
                w.points = 0;
                w.seasonBouts = 0;
            }
            season++;
            return up;
        }

        int told(Wrestler w, int what) {
            int[] tells = {w.rating, w.league, w.points, w.bouts, w.seasonBouts, w.row, w.best,
                league(w.league).indexOf(w) + 1, w.weight()};
            return tells[index(what, 0, 8)];
        }

        int count(int what) {
            int[] tells = {season, all.size(), bouts, upsets, league(0).size(), league(1).size(), league(2).size(),
                all.stream().mapToInt(w -> w.rating).max().orElse(0),
                all.stream().mapToInt(w -> w.rating).min().orElse(0)};
            return tells[index(what, 0, 8)];
        }

        int chance(int a, int b, int wins) {
            int e = expected(of(a), of(b));
            argument(wins, 1, 9);
            argument(a == b ? 1 : 0, 0, 0);
            long[][] f = new long[wins + 1][wins + 1];
            for (int i = 0; i <= wins; i++) {
                for (int j = 0; j <= wins; j++) {
                    f[i][j] = i == 0 ? 1000000 : j == 0 ? 0 : (e * f[i - 1][j] + (1000 - e) * f[i][j - 1]) / 1000;
                }
            }
            return (int) f[wins][wins];
        }

        static int uneven(Wrestler a, Wrestler b) {
            return Math.abs(500 - expected(a, b));
        }

        int match(Wrestler who) {
            return all.stream().filter(w -> w != who && w.league == who.league)
                .min(Comparator.<Wrestler>comparingInt(w -> uneven(w, who)).thenComparingInt(w -> w.number))
                .map(w -> w.number).orElse(-1);
        }

        int next() {
            List<Wrestler[]> pairs = new ArrayList<>();
            for (Wrestler a : all) {
                for (Wrestler b : all) {
                    if (a.number < b.number && a.league == b.league) {
                        pairs.add(new Wrestler[] {a, b});
                    }
                }
            }
            return pairs.stream()
                .min(Comparator.<Wrestler[]>comparingInt(p -> p[0].seasonBouts + p[1].seasonBouts)
                    .thenComparingInt(p -> uneven(p[0], p[1]))
                    .thenComparingInt(p -> p[0].number).thenComparingInt(p -> p[1].number))
                .map(p -> 12 * p[0].number + p[1].number).orElse(-1);
        }

        int foresee(int times) {
            Model copy = new Model();
            for (Wrestler w : all) {
                copy.all.add(w.copy());
            }
            for (int i = 0; i < times && copy.next() >= 0; i++) {
                Wrestler first = copy.all.get(copy.next() / 12);
                Wrestler second = copy.all.get(copy.next() % 12);
                hold(first, second, second.rating > first.rating ? 0 : 2);
            }
            return copy.count(7);
        }

        double mean() {
            double sum = 0;
            for (Wrestler w : all) {
                sum += w.rating;
            }
            return all.isEmpty() ? 0.0 : sum / all.size();
        }

        long digest() {
            long d = 1637;
            for (int what = 0; what <= 8; what++) {
                d = d * 31 + count(what);
            }
            for (Wrestler w : all) {
                for (int what = 0; what <= 8; what++) {
                    d = d * 31 + told(w, what);
                }
            }
            return d * 31 + next();
        }
    }
}
