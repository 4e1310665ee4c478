import java.math.BigInteger;
import java.util.ArrayList;
import java.util.Arrays;
import java.util.HashSet;
import java.util.List;
import java.util.NoSuchElementException;
import java.util.Random;
import java.util.Set;

/**
 * Random runs of calls, each answered by the class and by a second, plain telling of the document
 * (Model): every answer, and every exception, must be alike.
 */
public final class ModelTest {
    /** What an object answers behind these is free. */
    private static final int MOST_CALLS = 512;
    private static final int CALLS_FOR_ALL = 200;

    private static int wrong = 0;
    private static long calls = 0;

    public static void main(String[] args) {
        int runs = args.length > 0 ? Integer.parseInt(args[0]) : 1200;
        for (int seed = 1; seed <= runs && wrong < 20; seed++) {
            new Run(seed).go();
        }
        System.out.println(calls + " calls, " + wrong + " answers unlike the model's");
        if (wrong != 0) {
            System.exit(1);
        }
    }

    interface Call {
        int ask();
    }

    static String answer(Call call) {
        try {
            return String.valueOf(call.ask());
        } catch (NoSuchElementException | IllegalArgumentException | NullPointerException
                | IndexOutOfBoundsException | ArithmeticException | ArrayStoreException e) {
            return e.getClass().getSimpleName();
        }
    }

    static final class Run {
        final Random random;
        final int seed;
        final SumDispersal real = new SumDispersal();
        final Model model = new Model();
        final List<String> log = new ArrayList<>();
        private int left = MOST_CALLS;
        private List<Runnable> gathered = null;

        Run(int seed) {
            this.seed = seed;
            this.random = new Random(seed * 7919L);
        }

        void due(String name, Call got, Call want) {
            if (gathered != null) {
                gathered.add(() -> hold(name, got, want));
            } else {
                hold(name, got, want);
            }
        }

        void hold(String name, Call got, Call want) {
            if (left == 0) {
                return;
            }
            left--;
            calls++;
            String g = answer(got);
            String w = answer(want);
            log.add(name + " = " + w);
            if (!g.equals(w)) {
                wrong++;
                System.out.println("run " + seed + ": " + name + " answered " + g + ", the model's is " + w);
                if (wrong == 1) {
                    log.forEach(l -> System.out.println("    " + l));
                }
            }
        }

        int upTo(int most) {
            return random.nextInt(most + 1);
        }

        int near(int most) {
            int dice = random.nextInt(40);
            if (dice == 0) {
                return -1;
            }
            if (dice == 1) {
                return most + 1;
            }
            if (dice == 2) {
                return random.nextInt();
            }
            return random.nextInt(most + 1);
        }

        void feed(String text) {
            byte[] bytes = Arrays.copyOf(text.getBytes(java.nio.charset.StandardCharsets.ISO_8859_1),
                (text.length() + 19) / 20 * 20);
            for (int at = 0; at < bytes.length; at += 20) {
                int[] w = new int[5];
                for (int i = 0; i < 20; i++) {
                    w[i / 4] = w[i / 4] << 8 | bytes[at + i] & 255;
                }
                due("feed", () -> real.feed(w[0], w[1], w[2], w[3], w[4]),
                    () -> model.feed(w[0], w[1], w[2], w[3], w[4]));
            }
        }

        void text(String kind, String told) {
            feed(told);
            int n = random.nextInt(60) == 0 ? near(700) : told.length();
            String name = kind + "(" + n + ") of '" + told + "'";
            switch (kind) {
                case "dispersal": due(name, () -> real.dispersal(n), () -> model.dispersal(n)); break;
                case "work": due(name, () -> real.work(n), () -> model.work(n)); break;
                default: due(name, () -> real.book(n), () -> model.book(n)); break;
            }
            due("fault", real::fault, model::fault);
        }

        String blanks() {
            int dice = random.nextInt(12);
            return dice == 0 ? "  " : dice == 1 ? "" : " ";
        }

        String number(int most) {
            int dice = random.nextInt(120);
            if (dice == 0) {
                return "000" + upTo(most);
            }
            if (dice == 1) {
                return String.valueOf(most + 1);
            }
            if (dice == 2) {
                return "99999999999999999999";
            }
            return String.valueOf(upTo(most));
        }

        String spoil(String told) {
            if (random.nextInt(8) != 0 || told.isEmpty()) {
                return told;
            }
            int at = random.nextInt(told.length());
            switch (random.nextInt(4)) {
                case 0: return told.substring(0, at);
                case 1: return told.substring(0, at) + told.substring(at + 1);
                case 2: return told.substring(0, at) + "; ]x9[".charAt(random.nextInt(6)) + told.substring(at);
                default: return told.substring(0, at) + (char) random.nextInt(256) + told.substring(at + 1);
            }
        }

        void tellDispersal() {
            StringBuilder b = new StringBuilder();
            int[][] groups = {{4, 1}, {7, 2}, {7, 1}, {5, 1}, {4, 0}, {2, 0}, {1, 0}, {3, 0}, {6, 1}, {7, 0}};
            int most = random.nextInt(25) == 0 ? 64 : 14;
            int clauses = upTo(most);
            for (int i = 0; i < clauses; i++) {
                switch (random.nextInt(most == 64 ? 3 : 7)) {
                    case 0: {
                        int[] g = groups[random.nextInt(groups.length)];
                        b.append("group").append(blanks()).append(g[0]).append(' ')
                            .append(random.nextInt(50) == 0 ? g[1] + 1 : g[1]);
                        break;
                    }
                    case 1: b.append("stripes").append(blanks()).append(1 + upTo(2)); break;
                    case 2: b.append("traitor").append(blanks()).append(number(6)); break;
                    default: b.append("symbol").append(blanks()).append(number(96)); break;
                }
                b.append(random.nextInt(20) == 0 ? " ;" : ";");
                if (b.length() > 560) {
                    break;
                }
            }
            text("dispersal", spoil(b.toString()));
        }

        String step(int depth) {
            int n = model.n - 1;
            int s = model.s - 1;
            int t = random.nextInt(3) == 0 ? upTo(n) : firstTraitor();
            switch (random.nextInt(16)) {
                case 0: case 1: case 2: return "deal" + blanks() + number(n);
                case 3: case 4: case 5: case 6: case 7: return "hear" + blanks() + number(n) + " " + upTo(n);
                case 8: return "taint" + blanks() + upTo(n) + " " + number(s) + " " + (1 + upTo(95));
                case 9: case 10: return "skew" + blanks() + upTo(n) + " " + number(n) + " " + (1 + upTo(2));
                case 11: return "skew " + upTo(n) + " " + upTo(n) + " " + (random.nextBoolean() ? 999 : number(999));
                case 12: return "say" + blanks() + t + " " + (random.nextBoolean() ? 0 : upTo(7)) + " " + number(1);
                case 13: return "forge" + blanks() + t + " " + upTo(s) + " " + (1 + upTo(95));
                case 14: return random.nextInt(3) == 0 ? "crash " + number(n) : "deal " + upTo(n);
                default: {
                    StringBuilder b = new StringBuilder("again ").append(number(random.nextInt(9) == 0 ? 60 : 4));
                    b.append(blanks()).append("[");
                    int inside = depth > 7 ? 0 : upTo(3);
                    for (int i = 0; i < inside; i++) {
                        b.append(random.nextInt(9) == 0 ? "again 2 [" + step(depth + 1) + ";]" : step(depth + 1)).append(";");
                    }
                    return b.append(blanks()).append("]").toString();
                }
            }
        }

        int firstTraitor() {
            for (int m = 0; m < model.n; m++) {
                if (model.traitor[m]) {
                    return m;
                }
            }
            return 0;
        }

        void tellWork() {
            StringBuilder b = new StringBuilder();
            if (random.nextInt(4) == 0) {
                for (int m = 0; m < model.n; m++) {
                    b.append("deal ").append(m).append(";");
                }
            }
            int steps = upTo(14);
            for (int i = 0; i < steps; i++) {
                String next = step(1) + ";";
                if (b.length() + next.length() > 150) {
                    break;
                }
                b.append(next);
            }
            if (random.nextInt(25) == 0) {
                b.setLength(0);
                int deep = 5 + upTo(2);
                b.append("again 2 [".repeat(deep)).append("deal 0;").append("];".repeat(deep));
            }
            text("work", spoil(b.toString()));
        }

        void tellBook() {
            StringBuilder b = new StringBuilder();
            for (int m = 0; m < model.n; m++) {
                if (random.nextInt(3) == 0) {
                    int stage = random.nextInt(4) == 0 ? upTo(3) : model.now.stage(m);
                    b.append(random.nextInt(25) == 0 ? upTo(7) : m).append(blanks()).append(" ").append(stage).append(";");
                }
            }
            text("book", spoil(b.toString()));
        }

        /** Works in a row of single steps, as few works as hold them. */
        void tellSteps(List<String> steps) {
            StringBuilder b = new StringBuilder();
            for (String step : steps) {
                if (b.length() + step.length() + 1 > 150) {
                    text("work", b.toString());
                    b.setLength(0);
                }
                b.append(step).append(";");
            }
            text("work", b.toString());
        }

        /**
         * A dealer with a second file for some, and traitors enough to make each member ready: so
         * that members come to be done by unlike vectors.
         */
        void split() {
            int[][] groups = {{7, 2}, {7, 1}, {6, 1}, {5, 1}, {4, 1}, {7, 0}, {4, 0}, {3, 0}, {2, 0}};
            int[] g = groups[random.nextInt(groups.length)];
            int stripes = 1 + upTo(2);
            List<Integer> all = new ArrayList<>();
            StringBuilder told = new StringBuilder("group " + g[0] + " " + g[1] + ";stripes " + stripes + ";");
            for (int i = 0; i < 9; i++) {
                told.append("symbol ").append(upTo(80)).append(";");
            }
            for (int m = 0; m < g[0]; m++) {
                all.add(m);
            }
            java.util.Collections.shuffle(all, random);
            List<Integer> traitors = new ArrayList<>(all.subList(0, Math.min(g[0] - 1, g[1] + 1 + upTo(1))));
            List<Integer> honest = new ArrayList<>(all.subList(traitors.size(), g[0]));
            for (int m : traitors) {
                told.append("traitor ").append(m).append(";");
            }
            text("dispersal", told.toString());
            List<String> steps = new ArrayList<>();
            int more = 1 + upTo(3);
            int mirrored = upTo(honest.size());
            for (int i = 0; i < mirrored; i++) {
                for (int a = 0; a < g[0] - (random.nextInt(12) == 0 ? 1 : 0); a++) {
                    steps.add("skew" + honest.get(i) + " " + a + " " + more);
                }
                steps.add("taint" + honest.get(i) + " 0 " + more);
            }
            for (int m : all) {
                if (random.nextInt(12) != 0) {
                    steps.add("deal" + m);
                }
            }
            tellSteps(steps);
            for (int phase = 0; phase < 4; phase++) {
                sway(traitors, honest);
                if (phase == 2 && random.nextBoolean()) {
                    steps.clear();
                    steps.add("crash" + upTo(g[0] - 1));
                    steps.add("forge" + traitors.get(0) + " 0 3");
                    tellSteps(steps);
                }
                askState();
            }
        }

        void sway(List<Integer> traitors, List<Integer> honest) {
            List<String> steps = new ArrayList<>();
            int v = random.nextInt(3) == 0 ? upTo(7) : random.nextBoolean() ? 0 : model.now.vectors.size() - 1;
            for (int m : traitors) {
                steps.add("say" + m + " " + v + " 1");
                steps.add("say" + m + " " + v + " 0");
            }
            for (int m : honest) {
                if (random.nextBoolean()) {
                    for (int a : traitors) {
                        steps.add("hear" + m + " " + a);
                    }
                    if (random.nextInt(3) == 0) {
                        steps.add("hear" + m + " " + honest.get(upTo(honest.size() - 1)));
                    }
                }
            }
            tellSteps(steps);
        }

        void go() {
            if (seed % 2 == 0) {
                split();
                if (seed % 4 == 0) {
                    askAll();
                    return;
                }
            } else if (random.nextInt(6) != 0) {
                tellDispersal();
            }
            for (int i = 0; i < 120 && wrong < 20 && left > CALLS_FOR_ALL; i++) {
                int dice = random.nextInt(40);
                if (dice == 0) {
                    tellDispersal();
                } else if (dice < 10) {
                    tellWork();
                } else if (dice < 12) {
                    tellBook();
                } else if (dice < 14) {
                    due("undo", real::undo, model::undo);
                } else if (dice == 14) {
                    due("image", real::image, model::image);
                } else if (dice == 15) {
                    due("restore", real::restore, model::restore);
                } else {
                    askSome();
                }
            }
            askAll();
        }

        void askSome() {
            int m = near(model.n - 1);
            int o = near(model.n - 1);
            int v = near(model.now.vectors.size() - 1);
            int set = near((1 << model.n) - 1);
            int w = near(2);
            int j = near(model.s - 1);
            switch (random.nextInt(14)) {
                case 0: {
                    int i = near(8);
                    due("file(" + set + "," + i + ")", () -> real.file(set, i), () -> model.file(set, i));
                    break;
                }
                case 1: {
                    int i = near(14);
                    due("trace(" + set + "," + i + ")", () -> real.trace(set, i), () -> model.trace(set, i));
                    break;
                }
                case 2: due("fetch(" + set + "," + w + ")", () -> real.fetch(set, w), () -> model.fetch(set, w)); break;
                case 3: {
                    int base = random.nextBoolean() ? near(99999) : near(5000);
                    due("sumBy(" + m + "," + base + ")", () -> real.sumBy(m, base), () -> model.sumBy(m, base));
                    break;
                }
                case 4: {
                    int place = near(6);
                    due("shelve(" + m + "," + w + "," + place + ")", () -> real.shelve(m, w, place), () -> model.shelve(m, w, place));
                    break;
                }
                case 5: {
                    int place = near(6);
                    due("shelf(" + place + ")", () -> real.shelf(place), () -> model.shelf(place));
                    break;
                }
                case 6: {
                    int x = near(96);
                    due("coded(" + x + "," + j + ")", () -> real.coded(x, j), () -> model.coded(x, j));
                    break;
                }
                case 7: case 8: {
                    int seed2 = random.nextInt();
                    int many = random.nextInt(30) == 0 ? near(96) : 1 + upTo(95);
                    int q = near(16);
                    int what = near(3);
                    due("storm(" + seed2 + "," + many + "," + q + "," + what + ")",
                        () -> real.storm(seed2, many, q, what), () -> model.storm(seed2, many, q, what));
                    int seeds = 1 + near(4);
                    due("span(" + seed2 + "," + seeds + "," + many + "," + q + "," + w + "," + m + ")",
                        () -> real.span(seed2, seeds, many, q, w, m), () -> model.span(seed2, seeds, many, q, w, m));
                    break;
                }
                case 9: due("symbol(" + m + "," + j + ")", () -> real.symbol(m, j), () -> model.symbol(m, j)); break;
                case 10: due("vector(" + v + "," + m + ")", () -> real.vector(v, m), () -> model.vector(v, m)); break;
                case 11: due("heard(" + m + "," + o + "," + w + ")", () -> real.heard(m, o, w), () -> model.heard(m, o, w)); break;
                case 12: due("given(" + set + "," + w + ")", () -> real.given(set, w), () -> model.given(set, w)); break;
                default: askState(); break;
            }
        }

        void askState() {
            for (int what = -1; what <= 11; what++) {
                int w = what;
                due("told(" + w + ")", () -> real.told(w), () -> model.told(w));
            }
            for (int what = -1; what <= 6; what++) {
                int w = what;
                due("status(" + w + ")", () -> real.status(w), () -> model.status(w));
                due("count(" + w + ")", () -> real.count(w), () -> model.count(w));
            }
            for (int what = -1; what <= 3; what++) {
                int w = what;
                due("ends(" + w + ")", () -> real.ends(w), () -> model.ends(w));
                due("first(" + w + ")", () -> real.first(w), () -> model.first(w));
                due("doom(" + w + ")", () -> real.doom(w), () -> model.doom(w));
                due("fits(" + w + ")", () -> real.fits(w), () -> model.fits(w));
                due("look(" + w + ")", () -> real.look(w), () -> model.look(w));
            }
            due("fewest", real::fewest, model::fewest);
            due("safe", real::safe, model::safe);
            due("unlike", real::unlike, model::unlike);
        }

        /** Of all that can be asked as much as an object may be, whatever it is. */
        void askAll() {
            gathered = new ArrayList<>();
            gatherAll();
            List<Runnable> asked = gathered;
            gathered = null;
            java.util.Collections.shuffle(asked, random);
            asked.forEach(Runnable::run);
        }

        void gatherAll() {
            askState();
            for (int member = -1; member <= model.n; member++) {
                int m = member;
                for (int what = -1; what <= 5; what++) {
                    int w = what;
                    due("member(" + m + "," + w + ")", () -> real.member(m, w), () -> model.member(m, w));
                }
                for (int j = -1; j <= model.s; j++) {
                    int k = j;
                    due("symbol(" + m + "," + k + ")", () -> real.symbol(m, k), () -> model.symbol(m, k));
                    due("dealer(" + m + "," + k + ")", () -> real.dealer(m, k), () -> model.dealer(m, k));
                }
                due("skewed(" + m + ")", () -> real.skewed(m), () -> model.skewed(m));
                due("lacks(" + m + ")", () -> real.lacks(m), () -> model.lacks(m));
                due("rounds(" + m + ")", () -> real.rounds(m), () -> model.rounds(m));
                due("tainted(" + m + ")", () -> real.tainted(m), () -> model.tainted(m));
                for (int vector = -1; vector <= model.now.vectors.size(); vector++) {
                    int v = vector;
                    due("vector(" + v + "," + m + ")", () -> real.vector(v, m), () -> model.vector(v, m));
                    for (int what = -1; what <= 2; what++) {
                        int w = what;
                        due("voices(" + m + "," + v + "," + w + ")", () -> real.voices(m, v, w), () -> model.voices(m, v, w));
                        due("sayers(" + v + "," + w + ")", () -> real.sayers(v, w), () -> model.sayers(v, w));
                    }
                }
                for (int other = -1; other <= model.n; other++) {
                    int o = other;
                    due("news(" + m + "," + o + ")", () -> real.news(m, o) ? 1 : 0, () -> model.news(m, o));
                    due("heard(" + m + "," + o + ",0)", () -> real.heard(m, o, 0), () -> model.heard(m, o, 0));
                    due("heard(" + m + "," + o + ",1)", () -> real.heard(m, o, 1), () -> model.heard(m, o, 1));
                }
            }
            askSets();
        }

        void askSets() {
            for (int members = -1; members <= 1 << model.n; members++) {
                int set = members;
                due("smooth(" + set + ")", () -> real.smooth(set) ? 1 : 0, () -> model.smooth(set));
                due("liar(" + set + ")", () -> real.liar(set), () -> model.liar(set));
                if (set % 5 == 0) {
                    due("loose(" + set + ")", () -> real.loose(set), () -> model.loose(set));
                    due("given(" + set + ",0)", () -> real.given(set, 0), () -> model.given(set, 0));
                }
                for (int what = 0; what <= 2; what++) {
                    int w = what;
                    due("fetch(" + set + "," + w + ")", () -> real.fetch(set, w), () -> model.fetch(set, w));
                }
                int i = upTo(8);
                due("file(" + set + "," + i + ")", () -> real.file(set, i), () -> model.file(set, i));
                due("trace(" + set + "," + i + ")", () -> real.trace(set, i), () -> model.trace(set, i));
            }
            askState();
        }
    }

    /** A fault of a text. */
    @SuppressWarnings("serial")
    static final class Fault extends RuntimeException {
        final int kind;
        final int place;

        Fault(int kind, int place) {
            this.kind = kind;
            this.place = place;
        }
    }

    record Token(int place, String text) { }

    record Step(String word, int[] numbers, List<Step> body) { }

    /** All texts: first into tokens, then by the grammar. */
    static final class Parser {
        final List<Token> tokens = new ArrayList<>();
        int next = 0;

        Parser(String text) {
            int i = 0;
            while (i < text.length()) {
                char c = text.charAt(i);
                int from = i++;
                if (c == ' ') {
                    continue;
                }
                if (isDigit(c)) {
                    while (i < text.length() && isDigit(text.charAt(i))) {
                        i++;
                    }
                } else if (isLetter(c)) {
                    while (i < text.length() && isLetter(text.charAt(i))) {
                        i++;
                    }
                }
                tokens.add(new Token(from, text.substring(from, i)));
            }
            tokens.add(new Token(text.length(), ""));
        }

        static boolean isDigit(char c) {
            return c >= '0' && c <= '9';
        }

        static boolean isLetter(char c) {
            return c >= 'a' && c <= 'z';
        }

        Token peek() {
            return tokens.get(next);
        }

        boolean over() {
            return peek().text().isEmpty();
        }

        int number(int least, int most) {
            Token t = peek();
            if (t.text().isEmpty() || !isDigit(t.text().charAt(0))) {
                throw new Fault(1, t.place());
            }
            BigInteger value = new BigInteger(t.text());
            if (value.compareTo(BigInteger.valueOf(least)) < 0 || value.compareTo(BigInteger.valueOf(most)) > 0) {
                throw new Fault(2, t.place());
            }
            next++;
            return value.intValue();
        }

        void mark(String mark) {
            if (!peek().text().equals(mark)) {
                throw new Fault(1, peek().place());
            }
            next++;
        }

        List<Step> steps(Model model, int open, String closing) {
            List<Step> list = new ArrayList<>();
            while (!peek().text().equals(closing)) {
                list.add(step(model, open));
                mark(";");
            }
            return list;
        }

        Step step(Model model, int open) {
            Token word = peek();
            int n = model.n - 1;
            int s = model.s - 1;
            int[][] ranges;
            switch (word.text()) {
                case "deal": case "crash": ranges = new int[][] {{0, n}}; break;
                case "hear": ranges = new int[][] {{0, n}, {0, n}}; break;
                case "taint": case "forge": ranges = new int[][] {{0, n}, {0, s}, {1, 96}}; break;
                case "skew": ranges = new int[][] {{0, n}, {0, n}, {1, 999}}; break;
                case "say": ranges = new int[][] {{0, n}, {0, 7}, {0, 1}}; break;
                case "again": ranges = new int[][] {{0, 60}}; break;
                default: throw new Fault(1, word.place());
            }
            boolean again = word.text().equals("again");
            if (again && open == 6) {
                throw new Fault(3, word.place());
            }
            next++;
            int[] numbers = new int[ranges.length];
            for (int i = 0; i < ranges.length; i++) {
                numbers[i] = number(ranges[i][0], ranges[i][1]);
            }
            List<Step> body = null;
            if (again) {
                mark("[");
                body = steps(model, open + 1, "]");
                mark("]");
            }
            return new Step(word.text(), numbers, body);
        }
    }

    /** All that works change. */
    static final class State {
        boolean[] up;
        boolean[] dealt;
        int[] dealtBy;
        int[] doneBy;
        int[][] fragment;
        int[][] offered;
        int[] offeredBy;
        List<List<Integer>> vectors = new ArrayList<>();
        int[][] said;
        int[][][] heard;

        State copy() {
            State s = new State();
            s.up = up.clone();
            s.dealt = dealt.clone();
            s.dealtBy = dealtBy.clone();
            s.doneBy = doneBy.clone();
            s.fragment = new int[fragment.length][];
            s.offered = new int[offered.length][];
            s.said = new int[said.length][];
            s.heard = new int[heard.length][heard.length][];
            for (int m = 0; m < fragment.length; m++) {
                s.fragment[m] = fragment[m] == null ? null : fragment[m].clone();
                s.offered[m] = offered[m].clone();
                s.said[m] = said[m].clone();
                for (int o = 0; o < fragment.length; o++) {
                    s.heard[m][o] = heard[m][o].clone();
                }
            }
            s.offeredBy = offeredBy.clone();
            s.vectors.addAll(vectors);
            return s;
        }

        int stage(int m) {
            return doneBy[m] >= 0 ? 3 : said[m][1] >= 0 ? 2 : said[m][0] >= 0 ? 1 : 0;
        }

        int bits(boolean[] row) {
            int b = 0;
            for (int m = 0; m < row.length; m++) {
                b |= row[m] ? 1 << m : 0;
            }
            return b;
        }

        int done() {
            int b = 0;
            for (int m = 0; m < doneBy.length; m++) {
                b |= doneBy[m] >= 0 ? 1 << m : 0;
            }
            return b;
        }
    }

    record Image(State state, List<State> works) { }

    record Fetched(int end, int vector, List<Integer> opened, List<Integer> trace, List<Integer> file) { }

    /** The document, told as plainly as can be. */
    static final class Model {
        int n;
        int t;
        int s;
        int[] file = new int[9];
        boolean[] traitor;
        State now;
        List<State> works = new ArrayList<>();
        List<Image> images = new ArrayList<>();
        int[] book;
        int lines;
        int[] shelf = new int[7];
        int refused;
        int faultAt = -1;
        List<Byte> tape = new ArrayList<>();
        int[] status = new int[6];
        int begun;
        int done;

        Model() {
            tell(4, 1, 2, new ArrayList<>(), new HashSet<>());
        }

        void tell(int newN, int newT, int newS, List<Integer> symbols, Set<Integer> traitors) {
            n = newN;
            t = newT;
            s = newS;
            Arrays.fill(file, 0);
            for (int i = 0; i < symbols.size() && i < (t + 1) * s; i++) {
                file[i] = symbols.get(i);
            }
            traitor = new boolean[n];
            for (int m = 0; m < n; m++) {
                traitor[m] = traitors.contains(m);
            }
            works = new ArrayList<>();
            images = new ArrayList<>();
            book = new int[n];
            Arrays.fill(book, -1);
            lines = 0;
            Arrays.fill(shelf, -1);
            refused = 0;
            now = new State();
            now.up = new boolean[n];
            Arrays.fill(now.up, true);
            now.dealt = new boolean[n];
            now.dealtBy = nones(n);
            now.doneBy = nones(n);
            now.fragment = new int[n][];
            now.offered = new int[n][s];
            now.offeredBy = new int[n];
            now.said = new int[n][];
            now.heard = new int[n][n][];
            List<Integer> sums = new ArrayList<>();
            for (int m = 0; m < n; m++) {
                now.offered[m] = fragmentOf(file, m);
                sums.add(sum(now.offered[m]));
                now.said[m] = nones(2);
                for (int o = 0; o < n; o++) {
                    now.heard[m][o] = nones(2);
                }
            }
            now.vectors.add(sums);
        }

        static int[] nones(int size) {
            int[] row = new int[size];
            Arrays.fill(row, -1);
            return row;
        }

        int[] fragmentOf(int[] symbols, int m) {
            int[] f = new int[s];
            for (int j = 0; j < s; j++) {
                f[j] = value(symbols, m + 1, j);
            }
            return f;
        }

        int value(int[] symbols, int x, int j) {
            int k = t + 1;
            int v = symbols[k * j];
            if (k > 1) {
                v += symbols[k * j + 1] * x;
            }
            if (k > 2) {
                v += symbols[k * j + 2] * x * x;
            }
            return v % 97;
        }

        static int sum(int[] fragment) {
            int[] weights = {1, 97, 9409};
            int total = 0;
            for (int j = 0; j < fragment.length; j++) {
                total += weights[j] * fragment[j];
            }
            return total;
        }

        // ---- refusals

        void noSuch(boolean bad) {
            if (bad) {
                status[0]++;
                throw new NoSuchElementException();
            }
        }

        void argument(boolean bad) {
            if (bad) {
                status[1]++;
                throw new IllegalArgumentException();
            }
        }

        void noFragment(int m) {
            if (now.fragment[m] == null) {
                status[2]++;
                throw new NullPointerException();
            }
        }

        void index(boolean bad) {
            if (bad) {
                status[3]++;
                throw new IndexOutOfBoundsException();
            }
        }

        void members(int... ms) {
            for (int m : ms) {
                noSuch(m < 0 || m >= n);
            }
        }

        void what(int what, int most) {
            argument(what < 0 || what > most);
        }

        void set(int set) {
            argument(set < 0 || set >= 1 << n);
        }

        void aVector(int v) {
            noSuch(v < 0 || v >= now.vectors.size());
        }

        // ---- texts

        int feed(int... words) {
            if (tape.size() + 20 > 600) {
                return -1;
            }
            for (int w : words) {
                tape.add((byte) (w >>> 24));
                tape.add((byte) (w >>> 16));
                tape.add((byte) (w >>> 8));
                tape.add((byte) w);
            }
            return tape.size();
        }

        String take(int count, int most) {
            argument(count < 0 || count > tape.size() || count > most);
            StringBuilder b = new StringBuilder();
            for (int i = 0; i < count; i++) {
                b.append((char) (tape.get(i) & 255));
            }
            tape.clear();
            faultAt = -1;
            return b.toString();
        }

        int dispersal(int count) {
            String text = take(count, 600);
            try {
                return readDispersal(new Parser(text));
            } catch (Fault f) {
                faultAt = f.place;
                return f.kind - 10;
            }
        }

        int readDispersal(Parser p) {
            int[] group = {4, 1};
            int stripes = 2;
            List<Integer> symbols = new ArrayList<>();
            Set<Integer> traitors = new HashSet<>();
            for (int clauses = 0; !p.over(); clauses++) {
                Token word = p.peek();
                if (!Set.of("group", "stripes", "symbol", "traitor").contains(word.text())) {
                    throw new Fault(1, word.place());
                }
                if (clauses == 60 || word.text().equals("symbol") && symbols.size() == 9) {
                    throw new Fault(3, word.place());
                }
                p.next++;
                switch (word.text()) {
                    case "group": {
                        group[0] = p.number(1, 7);
                        int place = p.peek().place();
                        group[1] = p.number(0, 2);
                        if (3 * group[1] + 1 > group[0]) {
                            throw new Fault(2, place);
                        }
                        break;
                    }
                    case "stripes": stripes = p.number(1, 3); break;
                    case "symbol": symbols.add(p.number(0, 96)); break;
                    default: traitors.add(p.number(0, 6)); break;
                }
                p.mark(";");
            }
            tell(group[0], group[1], stripes, symbols, traitors);
            return n;
        }

        int work(int count) {
            String text = take(count, 150);
            if (works.size() == 16) {
                return -20;
            }
            try {
                List<Step> steps = new Parser(text).steps(this, 0, "");
                works.add(now.copy());
                begun = 0;
                done = 0;
                refused = 0;
                runAll(steps);
                return done;
            } catch (Fault f) {
                faultAt = f.place;
                return f.kind - 10;
            }
        }

        void runAll(List<Step> steps) {
            for (Step step : steps) {
                if (begun == 200) {
                    return;
                }
                begun++;
                if (step.body() != null) {
                    for (int i = 0; i < step.numbers()[0]; i++) {
                        runAll(step.body());
                    }
                } else if (doStep(now, step.word(), step.numbers())) {
                    done++;
                } else {
                    refused++;
                }
            }
        }

        int book(int count) {
            String text = take(count, 60);
            int[] draft = nones(n);
            int read = 0;
            try {
                Parser p = new Parser(text);
                while (!p.over()) {
                    int place = p.peek().place();
                    int m = p.number(0, n - 1);
                    if (draft[m] >= 0) {
                        throw new Fault(2, place);
                    }
                    draft[m] = p.number(0, 3);
                    p.mark(";");
                    read++;
                }
            } catch (Fault f) {
                faultAt = f.place;
                return f.kind - 10;
            }
            book = draft;
            lines = read;
            return lines;
        }

        int fault() {
            return faultAt;
        }

        int undo() {
            if (works.isEmpty()) {
                return -1;
            }
            now = works.remove(works.size() - 1);
            refused = 0;
            return works.size();
        }

        int image() {
            if (images.size() == 3) {
                return -1;
            }
            List<State> copies = new ArrayList<>();
            for (State state : works) {
                copies.add(state.copy());
            }
            images.add(new Image(now.copy(), copies));
            return images.size();
        }

        int restore() {
            if (images.isEmpty()) {
                return -1;
            }
            Image image = images.remove(images.size() - 1);
            now = image.state();
            works = image.works();
            refused = 0;
            return images.size();
        }

        // ---- steps

        boolean doStep(State st, String word, int... a) {
            int m = a[0];
            switch (word) {
                case "deal": return deal(st, m);
                case "hear": return hear(st, m, a[1]);
                case "taint":
                    st.offered[m][a[1]] = (st.offered[m][a[1]] + a[2]) % 97;
                    return true;
                case "skew": return skew(st, m, a[1], a[2]);
                case "say":
                    if (!traitor[m] || !st.up[m] || a[1] >= st.vectors.size() || st.said[m][a[2]] == a[1]) {
                        return false;
                    }
                    says(st, m, a[2], a[1]);
                    return true;
                case "forge":
                    if (!traitor[m] || st.fragment[m] == null) {
                        return false;
                    }
                    st.fragment[m][a[1]] = (st.fragment[m][a[1]] + a[2]) % 97;
                    return true;
                default: {
                    boolean was = st.up[m];
                    st.up[m] = false;
                    return was;
                }
            }
        }

        void says(State st, int m, int what, int v) {
            st.said[m][what] = v;
            st.heard[m][m][what] = v;
        }

        boolean deal(State st, int m) {
            if (!st.up[m] || st.dealt[m]) {
                return false;
            }
            st.dealt[m] = true;
            int v = st.offeredBy[m];
            st.dealtBy[m] = v;
            if (sum(st.offered[m]) == st.vectors.get(v).get(m)) {
                st.fragment[m] = st.offered[m].clone();
                if (!traitor[m]) {
                    says(st, m, 0, v);
                    act(st, m);
                }
            }
            return true;
        }

        boolean hear(State st, int b, int a) {
            if (a == b || !st.up[b] || Arrays.equals(st.heard[b][a], st.said[a])) {
                return false;
            }
            st.heard[b][a] = st.said[a].clone();
            if (!traitor[b]) {
                act(st, b);
            }
            return true;
        }

        int voiced(State st, int m, int what, int v) {
            int c = 0;
            for (int o = 0; o < n; o++) {
                c += st.heard[m][o][what] == v ? 1 : 0;
            }
            return c;
        }

        void act(State st, int m) {
            boolean changes;
            do {
                changes = false;
                for (int v = 0; v < st.vectors.size(); v++) {
                    if (st.said[m][1] < 0 && (voiced(st, m, 0, v) >= n - t || voiced(st, m, 1, v) >= t + 1)) {
                        says(st, m, 1, v);
                        changes = true;
                    }
                    if (st.doneBy[m] < 0 && voiced(st, m, 1, v) >= 2 * t + 1) {
                        st.doneBy[m] = v;
                        changes = true;
                    }
                }
            } while (changes);
        }

        boolean skew(State st, int m, int a, int d) {
            List<Integer> sums = new ArrayList<>(st.vectors.get(st.offeredBy[m]));
            sums.set(a, (sums.get(a) + d) % 1000000);
            int v = st.vectors.indexOf(sums);
            if (v < 0) {
                if (st.vectors.size() == 8) {
                    return false;
                }
                v = st.vectors.size();
                st.vectors.add(sums);
            }
            st.offeredBy[m] = v;
            return true;
        }

        boolean turn(State st) {
            boolean changed = false;
            for (int b = 0; b < n; b++) {
                for (int a = 0; a < n; a++) {
                    changed = hear(st, b, a) || changed;
                }
            }
            return changed;
        }

        int allHear(State st) {
            int turns = 0;
            while (turn(st)) {
                turns++;
            }
            return turns;
        }

        // ---- asked

        int told(int what) {
            what(what, 10);
            boolean[] has = new boolean[n];
            for (int m = 0; m < n; m++) {
                has[m] = now.fragment[m] != null;
            }
            int[] all = {n, t, s, now.vectors.size(), now.bits(now.up), now.bits(traitor), now.bits(now.dealt),
                now.bits(has), now.done(), lines, refused};
            return all[what];
        }

        int member(int m, int what) {
            members(m);
            what(what, 4);
            return new int[] {now.stage(m), now.dealtBy[m], now.said[m][0], now.said[m][1], now.doneBy[m]}[what];
        }

        int symbol(int m, int j) {
            members(m);
            noFragment(m);
            index(j < 0 || j >= s);
            return now.fragment[m][j];
        }

        int dealer(int m, int j) {
            members(m);
            index(j < 0 || j >= s);
            return now.offered[m][j];
        }

        int vector(int v, int m) {
            aVector(v);
            members(m);
            return now.vectors.get(v).get(m);
        }

        int skewed(int m) {
            members(m);
            return now.offeredBy[m];
        }

        int heard(int m, int o, int what) {
            members(m, o);
            what(what, 1);
            return m == o ? now.said[m][what] : now.heard[m][o][what];
        }

        int voices(int m, int v, int what) {
            members(m);
            aVector(v);
            what(what, 1);
            return voiced(now, m, what, v);
        }

        int ends(int what) {
            what(what, 2);
            State st = now.copy();
            int turns = allHear(st);
            int ready = 0;
            for (int m = 0; m < n; m++) {
                ready |= st.said[m][1] >= 0 ? 1 << m : 0;
            }
            return new int[] {st.done(), ready, turns}[what];
        }

        Fetched fetched(State st, int set) {
            List<Integer> asked = new ArrayList<>();
            for (int m = 0; m < n; m++) {
                if ((set >> m & 1) == 1 && st.up[m]) {
                    asked.add(m);
                }
            }
            int by = -1;
            for (int v = st.vectors.size() - 1; v >= 0; v--) {
                int c = 0;
                for (int m : asked) {
                    c += st.doneBy[m] == v ? 1 : 0;
                }
                by = c > t ? v : by;
            }
            List<Integer> opened = new ArrayList<>();
            List<Integer> trace = new ArrayList<>();
            List<Integer> good = new ArrayList<>();
            if (by < 0) {
                return new Fetched(0, -1, opened, trace, null);
            }
            openNext(st, asked, 0, by, opened, trace, good);
            if (good.size() < t + 1) {
                return new Fetched(0, by, opened, trace, null);
            }
            int[] symbols = new int[9];
            for (int j = 0; j < s; j++) {
                int[] c = solve(st, good, j);
                System.arraycopy(c, 0, symbols, (t + 1) * j, t + 1);
            }
            List<Integer> told = new ArrayList<>();
            for (int symbol : symbols) {
                told.add(symbol);
            }
            for (int m = 0; m < n; m++) {
                if (sum(fragmentOf(symbols, m)) != st.vectors.get(by).get(m)) {
                    return new Fetched(1, by, opened, trace, null);
                }
            }
            return new Fetched(2, by, opened, trace, told);
        }

        void openNext(State st, List<Integer> asked, int i, int v, List<Integer> opened, List<Integer> trace, List<Integer> good) {
            if (i == asked.size() || good.size() == t + 1) {
                return;
            }
            int m = asked.get(i);
            opened.add(m);
            trace.add(m + 1);
            try {
                if (st.fragment[m] != null && sum(st.fragment[m]) == st.vectors.get(v).get(m)) {
                    good.add(m);
                }
                openNext(st, asked, i + 1, v, opened, trace, good);
            } finally {
                trace.add(-m - 1);
            }
        }

        /** The K numbers of the polynomial through all of some fragments; null: there is none. */
        int[] solve(State st, List<Integer> some, int j) {
            int k = t + 1;
            int[][] rows = new int[some.size()][k + 1];
            for (int i = 0; i < some.size(); i++) {
                int x = some.get(i) + 1;
                rows[i][0] = 1;
                for (int c = 1; c < k; c++) {
                    rows[i][c] = rows[i][c - 1] * x % 97;
                }
                rows[i][k] = st.fragment[some.get(i)][j];
            }
            int row = 0;
            for (int c = 0; c < k && row < rows.length; c++) {
                int pivot = row;
                while (pivot < rows.length && rows[pivot][c] == 0) {
                    pivot++;
                }
                if (pivot == rows.length) {
                    continue;
                }
                int[] swap = rows[pivot];
                rows[pivot] = rows[row];
                rows[row] = swap;
                int inverse = BigInteger.valueOf(rows[row][c]).modInverse(BigInteger.valueOf(97)).intValue();
                for (int d = 0; d <= k; d++) {
                    rows[row][d] = rows[row][d] * inverse % 97;
                }
                for (int r = 0; r < rows.length; r++) {
                    int factor = rows[r][c];
                    for (int d = 0; r != row && d <= k; d++) {
                        rows[r][d] = Math.floorMod(rows[r][d] - factor * rows[row][d], 97);
                    }
                }
                row++;
            }
            for (int r = row; r < rows.length; r++) {
                if (rows[r][k] != 0) {
                    return null;
                }
            }
            int[] result = new int[k];
            for (int c = 0; c < k && c < row; c++) {
                result[c] = rows[c][k];
            }
            return result;
        }

        int fetch(int set, int what) {
            set(set);
            what(what, 2);
            Fetched f = fetched(now, set);
            return new int[] {f.end(), f.vector(), f.opened().size()}[what];
        }

        int file(int set, int i) {
            set(set);
            what(i, 8);
            Fetched f = fetched(now, set);
            return f.file() == null ? -1 : f.file().get(i);
        }

        int trace(int set, int i) {
            set(set);
            argument(i < 0);
            List<Integer> trace = fetched(now, set).trace();
            return i < trace.size() ? trace.get(i) : 0;
        }

        int fewest() {
            for (int size = 0; size <= n; size++) {
                for (int set = 0; set < 1 << n; set++) {
                    if (Integer.bitCount(set) == size && fetched(now, set).end() != 0) {
                        return size;
                    }
                }
            }
            return -1;
        }

        int safe() {
            int best = n;
            for (int fall = 0; fall < 1 << n; fall++) {
                int size = Integer.bitCount(fall);
                if (size >= best || (fall & ~now.bits(now.up)) != 0) {
                    continue;
                }
                State st = now.copy();
                for (int m = 0; m < n; m++) {
                    st.up[m] &= (fall >> m & 1) == 0;
                }
                boolean none = true;
                for (int set = 0; set < 1 << n && none; set++) {
                    none = fetched(st, set).end() == 0;
                }
                if (none) {
                    best = size;
                }
            }
            return best;
        }

        int unlike() {
            Set<List<Integer>> ends = new HashSet<>();
            for (int set = 0; set < 1 << n; set++) {
                Fetched f = fetched(now, set);
                if (f.end() != 0) {
                    ends.add(f.end() == 1 ? new ArrayList<>() : f.file());
                }
            }
            return ends.size();
        }

        List<Integer> fitting(List<State> thens) {
            List<Integer> sets = new ArrayList<>();
            for (int set = 0; set < 1 << n; set++) {
                State st = now.copy();
                boolean can = true;
                for (int m = 0; m < n; m++) {
                    if ((set >> m & 1) == 1) {
                        can &= deal(st, m);
                    }
                }
                if (!can) {
                    continue;
                }
                allHear(st);
                boolean right = true;
                for (int m = 0; m < n; m++) {
                    right &= book[m] < 0 || book[m] == st.stage(m);
                }
                if (right) {
                    sets.add(set);
                    thens.add(st);
                }
            }
            return sets;
        }

        int fits(int what) {
            what(what, 1);
            List<Integer> sets = fitting(new ArrayList<>());
            return what == 0 ? sets.size() : sets.isEmpty() ? -1 : sets.get(0);
        }

        int look(int what) {
            what(what, 1);
            List<State> thens = new ArrayList<>();
            fitting(thens);
            int[] best = {-1, -1};
            for (int m = n - 1; m >= 0; m--) {
                if (book[m] >= 0) {
                    continue;
                }
                int worst = 0;
                for (int stage = 0; stage <= 3; stage++) {
                    int c = 0;
                    for (State st : thens) {
                        c += st.stage(m) == stage ? 1 : 0;
                    }
                    worst = Math.max(worst, c);
                }
                if (best[0] < 0 || worst <= best[1]) {
                    best = new int[] {m, worst};
                }
            }
            return best[what];
        }

        int sumBy(int m, int base) {
            members(m);
            argument(base < 1 || base > 99999);
            noFragment(m);
            int total = now.fragment[m][0];
            int power = 1;
            try {
                for (int j = 1; j < s; j++) {
                    power = Math.multiplyExact(power, base);
                    total = Math.addExact(total, Math.multiplyExact(power, now.fragment[m][j]));
                }
            } catch (ArithmeticException e) {
                status[4]++;
                throw e;
            }
            return total;
        }

        int shelve(int m, int kind, int place) {
            members(m);
            what(kind, 1);
            index(place < 0 || place > 6);
            if (kind == 1) {
                status[5]++;
                throw new ArrayStoreException();
            }
            shelf[place] = now.fragment[m] == null ? -1 : sum(now.fragment[m]);
            return 1;
        }

        int shelf(int place) {
            index(place < 0 || place > 6);
            return shelf[place];
        }

        int coded(int x, int j) {
            argument(x < 0 || x > 96 || j < 0 || j >= s);
            return value(file, x, j);
        }

        int sayers(int v, int what) {
            aVector(v);
            what(what, 2);
            int b = 0;
            for (int m = 0; m < n; m++) {
                b |= (what == 2 ? now.doneBy[m] : now.said[m][what]) == v ? 1 << m : 0;
            }
            return b;
        }

        boolean isSmooth(int set) {
            List<Integer> some = new ArrayList<>();
            for (int m = 0; m < n; m++) {
                if ((set >> m & 1) == 1 && now.fragment[m] != null) {
                    some.add(m);
                }
            }
            for (int j = 0; j < s; j++) {
                if (solve(now, some, j) == null) {
                    return false;
                }
            }
            return true;
        }

        int smooth(int set) {
            set(set);
            return isSmooth(set) ? 1 : 0;
        }

        int liar(int set) {
            set(set);
            if (isSmooth(set)) {
                return -1;
            }
            for (int m = 0; m < n; m++) {
                if ((set >> m & 1) == 1 && now.fragment[m] != null && isSmooth(set - (1 << m))) {
                    return m;
                }
            }
            return -1;
        }

        int lacks(int m) {
            members(m);
            if (now.said[m][1] >= 0) {
                return 0;
            }
            int lack = n - t;
            for (int v = 0; v < now.vectors.size(); v++) {
                lack = Math.min(lack, n - t - voiced(now, m, 0, v));
            }
            return Math.max(lack, 0);
        }

        int turnsTo(State st, int set) {
            int turns = 0;
            while ((st.done() & set) == 0) {
                if (!turn(st)) {
                    return -1;
                }
                turns++;
            }
            return turns;
        }

        int rounds(int m) {
            members(m);
            return turnsTo(now.copy(), 1 << m);
        }

        int doom(int what) {
            what(what, 1);
            int[] best = {-1, -1};
            for (int m = n - 1; m >= 0; m--) {
                State st = now.copy();
                if (doStep(st, "crash", m)) {
                    allHear(st);
                    int c = Integer.bitCount(st.done());
                    if (best[0] < 0 || c <= best[1]) {
                        best = new int[] {m, c};
                    }
                }
            }
            return best[what];
        }

        int tainted(int m) {
            members(m);
            if (now.fragment[m] == null) {
                return -1;
            }
            int c = 0;
            for (int j = 0; j < s; j++) {
                c += now.fragment[m][j] != now.offered[m][j] ? 1 : 0;
            }
            return c;
        }

        int news(int m, int o) {
            members(m, o);
            return hear(now.copy(), m, o) ? 1 : 0;
        }

        int loose(int set) {
            set(set);
            int best = n;
            for (int out = 0; out < 1 << n; out++) {
                if ((out & ~set) == 0 && Integer.bitCount(out) < best && isSmooth(set & ~out)) {
                    best = Integer.bitCount(out);
                }
            }
            return best;
        }

        int first(int what) {
            what(what, 1);
            State st = now.copy();
            int turns = turnsTo(st, (1 << n) - 1);
            return what == 1 || turns < 0 ? turns : Integer.numberOfTrailingZeros(st.done());
        }

        int given(int set, int what) {
            set(set);
            what(what, 1);
            State st = now.copy();
            int c = 0;
            for (int m = 0; m < n; m++) {
                c += (set >> m & 1) == 1 && deal(st, m) ? 1 : 0;
            }
            allHear(st);
            return what == 0 ? st.done() : c;
        }

        long drawing;

        int drawn(int by) {
            drawing = (drawing * 1103515245L + 12345L) % 4294967296L;
            return (int) (drawing / 65536 % 32768 % by);
        }

        State stormed(int seed, int many, int q) {
            State st = now.copy();
            drawing = seed & 0xffffffffL;
            for (int i = 0; i < many; i++) {
                switch (drawn(8)) {
                    case 0: case 1: deal(st, drawn(n)); break;
                    case 6:
                        if (drawn(16) < q) {
                            doStep(st, "crash", drawn(n));
                        }
                        break;
                    case 7: doStep(st, "taint", drawn(n), drawn(s), 1 + drawn(96)); break;
                    default: hear(st, drawn(n), drawn(n)); break;
                }
            }
            return st;
        }

        int storm(int seed, int many, int q, int what) {
            argument(many < 1 || many > 96 || q < 0 || q > 16 || what < 0 || what > 3);
            State st = stormed(seed, many, q);
            if (what == 3) {
                return fetched(st, (1 << n) - 1).end();
            }
            if (what == 1) {
                return st.bits(st.up);
            }
            if (what == 2) {
                allHear(st);
            }
            return st.done();
        }

        int span(int seed, int seeds, int many, int q, int what, int m) {
            members(m);
            argument(seeds < 1 || seeds > 5 || many < 1 || many > 96 || q < 0 || q > 16 || what < 0 || what > 2);
            List<Integer> counts = new ArrayList<>();
            int by = 0;
            for (int i = 0; i < seeds; i++) {
                int bits = stormed(seed + i, many, q).done();
                counts.add(Integer.bitCount(bits));
                by += bits >> m & 1;
            }
            counts.sort(null);
            return new int[] {counts.get(0), counts.get(seeds - 1), by}[what];
        }

        int status(int what) {
            return what < 0 || what > 5 ? -1 : status[what];
        }

        int count(int what) {
            return what == 0 ? images.size() : what == 1 ? tape.size() : what == 2 ? works.size() : -1;
        }
    }
}
