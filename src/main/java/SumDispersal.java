import java.util.Arrays;
import java.util.NoSuchElementException;

/**
 * Verifiable dispersal of a file among members, as ../shared/DOC.md promises it: the words in
 * capitals there are the names here.
 */
public final class SumDispersal {
    public static final int NONE = -1;

    private static final int PRIME = 97;
    private static final int MOST_MEMBERS = 7;
    private static final int MOST_STRIPES = 3;
    private static final int MOST_SYMBOLS = 9;
    private static final int MOST_VECTORS = 8;
    private static final int STAGES = 4;

    private static final int MOST_TAPE = 600;
    private static final int MOST_WORK_BYTES = 150;
    private static final int MOST_BOOK_BYTES = 60;
    private static final int MOST_WORKS = 16;
    private static final int MOST_IMAGES = 3;
    private static final int PLACES = 7;
    private static final int MOST_BASE = 99_999;
    private static final int TOO_MANY_WORKS = -20;

    private static final int ECHO = 0;
    private static final int READY = 1;

    private static final int NO_SUCH = 0;
    private static final int ARGUMENT = 1;
    private static final int NULL = 2;
    private static final int INDEX = 3;
    private static final int ARITHMETIC = 4;
    private static final int STORE = 5;
    private static final int REASONS = 6;

    private final int[] refusals = new int[REASONS];
    private final byte[] tape = new byte[MOST_TAPE];
    private int taped = 0;
    private final Reader reader = new Reader(tape);
    private int faultPlace = NONE;

    private final Plan plan = new Plan();
    private final Plan draft = new Plan();
    private final Script script = new Script();
    private final Book lines = new Book();

    private final World now = new World(plan);
    private final World trial = new World(plan);
    private int refusedLately = 0;
    private Snapshot works = null;
    private final Snapshot[] images = new Snapshot[MOST_IMAGES];
    private int imaged = 0;

    private final int[] places = new int[PLACES];
    private final Curve curve = new Curve();
    private final Retrieval retrieval = new Retrieval(curve);
    private final Guess guess = new Guess();
    private final boolean[] hopeless = new boolean[1 << MOST_MEMBERS];

    public SumDispersal() {
        plan.begin();
        startAnew();
    }

    // ---- texts ----

    public int feed(int a, int b, int c, int d, int e) {
        if (taped + 20 > MOST_TAPE) {
            return NONE;
        }
        putOnTape(a);
        putOnTape(b);
        putOnTape(c);
        putOnTape(d);
        putOnTape(e);
        return taped;
    }

    private void putOnTape(int four) {
        for (int shift = 24; shift >= 0 && taped < MOST_TAPE; shift -= 8) {
            tape[taped] = (byte) (four >> shift);
            taped++;
        }
    }

    public int dispersal(int n) throws IllegalArgumentException {
        openText(n, MOST_TAPE);
        draft.read(reader);
        if (textFails()) {
            return reader.answer();
        }
        plan.takeFrom(draft);
        startAnew();
        return plan.members;
    }

    public int work(int n) throws IllegalArgumentException {
        openText(n, MOST_WORK_BYTES);
        if (worksLeft() >= MOST_WORKS) {
            faultPlace = NONE;
            return TOO_MANY_WORKS;
        }
        script.read(reader, plan);
        if (textFails()) {
            return reader.answer();
        }
        works = new Snapshot(now, works);
        script.run(now);
        refusedLately = script.refused;
        return script.done;
    }

    public int book(int n) throws IllegalArgumentException {
        openText(n, MOST_BOOK_BYTES);
        lines.read(reader, plan.members);
        if (textFails()) {
            return reader.answer();
        }
        return lines.many;
    }

    public int fault() {
        return faultPlace;
    }

    private void openText(int n, int most) {
        needArgument(n >= 0 && n <= taped && n <= most);
        reader.open(n);
        taped = 0;
    }

    private boolean textFails() {
        faultPlace = reader.faultPlace;
        return reader.hasFailed();
    }

    private void startAnew() {
        now.begin();
        lines.clear();
        works = null;
        refusedLately = 0;
        imaged = 0;
        for (int i = 0; i < MOST_IMAGES; i++) {
            images[i] = null;
        }
        Arrays.fill(places, NONE);
    }

    // ---- works undone, images ----

    public int undo() {
        if (works == null) {
            return NONE;
        }
        returnTo(works);
        return worksLeft();
    }

    public int image() {
        if (imaged >= MOST_IMAGES) {
            return NONE;
        }
        images[imaged] = new Snapshot(now, works);
        imaged++;
        return imaged;
    }

    public int restore() {
        if (imaged <= 0) {
            return NONE;
        }
        imaged--;
        Snapshot latest = images[imaged];
        images[imaged] = null;
        if (latest != null) {
            returnTo(latest);
        }
        return imaged;
    }

    private void returnTo(Snapshot snapshot) {
        now.copyFrom(snapshot.cells);
        works = snapshot.below;
        refusedLately = 0;
    }

    private int worksLeft() {
        return works == null ? 0 : works.depth;
    }

    // ---- what is there ----

    public int told(int what) throws IllegalArgumentException {
        needArgument(what >= 0 && what <= 10);
        switch (what) {
            case 0: return plan.members;
            case 1: return plan.trust;
            case 2: return plan.stripes;
            case 3: return now.vectors();
            case 4: return now.upBits();
            case 5: return plan.traitors;
            case 6: return now.dealtBits();
            case 7: return now.holdingBits();
            case 8: return now.doneBits();
            case 9: return lines.many;
            default: return refusedLately;
        }
    }

    public int member(int member, int what) throws NoSuchElementException, IllegalArgumentException {
        needMember(member);
        needArgument(what >= 0 && what <= 4);
        switch (what) {
            case 0: return now.stage(member);
            case 1: return now.dealtBy(member);
            case 2: return now.said(member, ECHO);
            case 3: return now.said(member, READY);
            default: return now.doneBy(member);
        }
    }

    public int symbol(int member, int j)
            throws NoSuchElementException, NullPointerException, IndexOutOfBoundsException {
        needMember(member);
        needFragment(member);
        needIndex(plan.hasStripe(j));
        return now.held(member, j);
    }

    public int dealer(int member, int j) throws NoSuchElementException, IndexOutOfBoundsException {
        needMember(member);
        needIndex(plan.hasStripe(j));
        return now.offered(member, j);
    }

    public int vector(int vector, int member) throws NoSuchElementException {
        needVector(vector);
        needMember(member);
        return now.sumIn(vector, member);
    }

    public int skewed(int member) throws NoSuchElementException {
        needMember(member);
        return now.offeredVector(member);
    }

    public int heard(int member, int other, int what)
            throws NoSuchElementException, IllegalArgumentException {
        needMember(member);
        needMember(other);
        needArgument(what == ECHO || what == READY);
        return now.heardOf(member, other, what);
    }

    public int voices(int member, int vector, int what)
            throws NoSuchElementException, IllegalArgumentException {
        needMember(member);
        needVector(vector);
        needArgument(what == ECHO || what == READY);
        return now.voicesFor(member, vector, what);
    }

    public int sayers(int vector, int what) throws NoSuchElementException, IllegalArgumentException {
        needVector(vector);
        needArgument(what >= 0 && what <= 2);
        int bits = 0;
        for (int m = 0; m < plan.members; m++) {
            int of = what == 2 ? now.doneBy(m) : now.said(m, what);
            if (of == vector) {
                bits |= 1 << m;
            }
        }
        return bits;
    }

    public int lacks(int member) throws NoSuchElementException {
        needMember(member);
        if (now.said(member, READY) != NONE) {
            return 0;
        }
        int most = 0;
        for (int v = 0; v < now.vectors(); v++) {
            most = Math.max(most, now.voicesFor(member, v, ECHO));
        }
        return Math.max(0, plan.members - plan.trust - most);
    }

    public int tainted(int member) throws NoSuchElementException {
        needMember(member);
        if (!now.holds(member)) {
            return NONE;
        }
        int changed = 0;
        for (int j = 0; j < plan.stripes; j++) {
            if (now.held(member, j) != now.offered(member, j)) {
                changed++;
            }
        }
        return changed;
    }

    public boolean news(int member, int other) throws NoSuchElementException {
        needMember(member);
        needMember(other);
        return now.canHear(member, other);
    }

    // ---- how all ends ----

    public int ends(int what) throws IllegalArgumentException {
        needArgument(what >= 0 && what <= 2);
        World then = rehearsal();
        int turns = then.allHearAll();
        if (what == 2) {
            return turns;
        }
        return what == 0 ? then.doneBits() : then.readyBits();
    }

    public int rounds(int member) throws NoSuchElementException {
        needMember(member);
        return turnsUntilDone(rehearsal(), 1 << member);
    }

    public int first(int what) throws IllegalArgumentException {
        needArgument(what == 0 || what == 1);
        World then = rehearsal();
        int turns = turnsUntilDone(then, plan.everybody());
        if (turns == NONE || what == 1) {
            return turns;
        }
        return leastOf(then.doneBits());
    }

    private static int leastOf(int members) {
        for (int m = 0; m < MOST_MEMBERS; m++) {
            if ((members >> m & 1) == 1) {
                return m;
            }
        }
        return NONE;
    }

    private static int turnsUntilDone(World then, int anyOf) {
        for (int turns = 0; turns <= World.MOST_TURNS; turns++) {
            if ((then.doneBits() & anyOf) != 0) {
                return turns;
            }
            if (!then.turn()) {
                return NONE;
            }
        }
        return NONE;
    }

    public int doom(int what) throws IllegalArgumentException {
        needArgument(what == 0 || what == 1);
        int worst = NONE;
        int fewestDone = NONE;
        for (int m = 0; m < plan.members; m++) {
            if (!now.isUp(m)) {
                continue;
            }
            World then = rehearsal();
            then.crash(m);
            then.allHearAll();
            int done = Integer.bitCount(then.doneBits());
            if (worst == NONE || done < fewestDone) {
                worst = m;
                fewestDone = done;
            }
        }
        return what == 0 ? worst : fewestDone;
    }

    public int given(int members, int what) throws IllegalArgumentException {
        needSet(members);
        needArgument(what == 0 || what == 1);
        World then = rehearsal();
        int deals = then.dealToAll(members);
        then.allHearAll();
        return what == 0 ? then.doneBits() : deals;
    }

    private World rehearsal() {
        trial.copyFrom(now.cells);
        return trial;
    }

    // ---- fetches ----

    public int fetch(int members, int what) throws IllegalArgumentException {
        needSet(members);
        needArgument(what >= 0 && what <= 2);
        retrieval.seek(now, members);
        if (what == 0) {
            return retrieval.end;
        }
        return what == 1 ? retrieval.vector : retrieval.opened;
    }

    public int file(int members, int i) throws IllegalArgumentException {
        needSet(members);
        needArgument(i >= 0 && i < MOST_SYMBOLS);
        retrieval.seek(now, members);
        return retrieval.end == Retrieval.FOUND ? retrieval.symbols[i] : NONE;
    }

    public int trace(int members, int i) throws IllegalArgumentException {
        needSet(members);
        needArgument(i >= 0);
        retrieval.seek(now, members);
        return i < retrieval.traced ? retrieval.steps[i] : 0;
    }

    public int fewest() {
        int least = NONE;
        for (int set = 0; set <= plan.everybody(); set++) {
            int size = Integer.bitCount(set);
            if ((least == NONE || size < least) && isEnough(now, set)) {
                least = size;
            }
        }
        return least;
    }

    public int safe() {
        int up = now.upBits();
        int mostLeft = 0;
        for (int set = 0; set <= plan.everybody(); set++) {
            if ((set & ~up) != 0) {
                continue;
            }
            hopeless[set] = areHopelessWithoutOne(set) && !isEnough(now, set);
            if (hopeless[set]) {
                mostLeft = Math.max(mostLeft, Integer.bitCount(set));
            }
        }
        return Integer.bitCount(up) - mostLeft;
    }

    // More members may find too few where fewer find enough (by a lesser vector), so every set
    // within counts, not the largest alone.
    private boolean areHopelessWithoutOne(int set) {
        for (int m = 0; m < plan.members; m++) {
            if ((set >> m & 1) == 1 && !hopeless[set & ~(1 << m)]) {
                return false;
            }
        }
        return true;
    }

    private boolean isEnough(World world, int set) {
        retrieval.seek(world, set);
        return retrieval.end != Retrieval.TOO_FEW;
    }

    // A file that is found codes to just the sums of its vector, and no two vectors have the same
    // sums: found files are unlike just if their vectors are.
    public int unlike() {
        int ends = 0;
        for (int set = 0; set <= plan.everybody(); set++) {
            if (isEnough(now, set)) {
                ends |= retrieval.end == Retrieval.FOUND ? 1 << retrieval.vector : 1 << MOST_VECTORS;
            }
        }
        return Integer.bitCount(ends);
    }

    // ---- whom the dealer reached ----

    public int fits(int what) throws IllegalArgumentException {
        needArgument(what == 0 || what == 1);
        guessReached();
        return what == 0 ? guess.right : guess.least;
    }

    public int look(int what) throws IllegalArgumentException {
        needArgument(what == 0 || what == 1);
        guessReached();
        int best = NONE;
        int left = NONE;
        for (int m = 0; m < plan.members; m++) {
            if (lines.hasLineOf(m)) {
                continue;
            }
            int worst = guess.mostAlike(m);
            if (best == NONE || worst < left) {
                best = m;
                left = worst;
            }
        }
        return what == 0 ? best : left;
    }

    private void guessReached() {
        guess.clear();
        int reachable = now.upBits() & ~now.dealtBits();
        for (int set = 0; set <= plan.everybody(); set++) {
            if ((set & ~reachable) != 0) {
                continue;
            }
            World then = rehearsal();
            then.dealToAll(set);
            then.allHearAll();
            if (lines.isRight(then)) {
                guess.take(set, then);
            }
        }
    }

    // ---- fragments, sums, shelves ----

    public int sumBy(int member, int base)
            throws NoSuchElementException, IllegalArgumentException, NullPointerException, ArithmeticException {
        needMember(member);
        needArgument(base >= 1 && base <= MOST_BASE);
        needFragment(member);
        long sum = now.held(member, 0);
        long power = 1;
        for (int j = 1; j < plan.stripes; j++) {
            power = power * base;
            needInt(power);
            long product = power * now.held(member, j);
            needInt(product);
            sum += product;
            needInt(sum);
        }
        return (int) sum;
    }

    public int shelve(int member, int kind, int place)
            throws NoSuchElementException, IllegalArgumentException, IndexOutOfBoundsException, ArrayStoreException {
        needMember(member);
        needArgument(kind == 0 || kind == 1);
        needIndex(place >= 0 && place < PLACES);
        if (kind == 1) {
            refuseRubble();
        }
        places[place] = now.holds(member) ? now.heldSum(member) : NONE;
        return 1;
    }

    public int shelf(int place) throws IndexOutOfBoundsException {
        needIndex(place >= 0 && place < PLACES);
        return places[place];
    }

    public int coded(int x, int j) throws IllegalArgumentException {
        needArgument(x >= 0 && x < PRIME && plan.hasStripe(j));
        return plan.codeAt(x, j);
    }

    public boolean smooth(int members) throws IllegalArgumentException {
        needSet(members);
        return curve.passesThrough(now, members);
    }

    public int liar(int members) throws IllegalArgumentException {
        needSet(members);
        if (curve.passesThrough(now, members)) {
            return NONE;
        }
        for (int m = 0; m < plan.members; m++) {
            boolean toldWithFragment = (members >> m & 1) == 1 && now.holds(m);
            if (toldWithFragment && curve.passesThrough(now, members & ~(1 << m))) {
                return m;
            }
        }
        return NONE;
    }

    public int loose(int members) throws IllegalArgumentException {
        needSet(members);
        int holders = members & now.holdingBits();
        int mostKept = 0;
        for (int kept = 0; kept <= plan.everybody(); kept++) {
            int size = Integer.bitCount(kept);
            if ((kept & ~holders) == 0 && size > mostKept && curve.passesThrough(now, kept)) {
                mostKept = size;
            }
        }
        return Integer.bitCount(holders) - mostKept;
    }

    // ---- storms ----

    public int storm(int seed, int many, int q, int what) throws IllegalArgumentException {
        needStorm(many, q);
        needArgument(what >= 0 && what <= 3);
        World then = rehearsal();
        new Storm(seed).rage(then, many, q);
        switch (what) {
            case 0: return then.doneBits();
            case 1: return then.upBits();
            case 2:
                then.allHearAll();
                return then.doneBits();
            default:
                retrieval.seek(then, plan.everybody());
                return retrieval.end;
        }
    }

    public int span(int seed, int seeds, int many, int q, int what, int member)
            throws NoSuchElementException, IllegalArgumentException {
        needMember(member);
        needArgument(seeds >= 1 && seeds <= 5);
        needStorm(many, q);
        needArgument(what >= 0 && what <= 2);
        int fewestDone = MOST_MEMBERS;
        int mostDone = 0;
        int times = 0;
        for (int i = 0; i < seeds; i++) {
            World then = rehearsal();
            new Storm(seed + i).rage(then, many, q);
            int done = Integer.bitCount(then.doneBits());
            fewestDone = Math.min(fewestDone, done);
            mostDone = Math.max(mostDone, done);
            times += then.doneBits() >> member & 1;
        }
        if (what == 2) {
            return times;
        }
        return what == 0 ? fewestDone : mostDone;
    }

    private void needStorm(int many, int q) {
        needArgument(many >= 1 && many <= 96 && q >= 0 && q <= 16);
    }

    // ---- refusals ----

    public int status(int what) {
        return what >= 0 && what < REASONS ? refusals[what] : NONE;
    }

    public int count(int what) {
        switch (what) {
            case 0: return imaged;
            case 1: return taped;
            case 2: return worksLeft();
            default: return NONE;
        }
    }

    private void needMember(int member) {
        if (member < 0 || member >= plan.members) {
            refusals[NO_SUCH]++;
            throw new NoSuchElementException("no such member");
        }
    }

    private void needVector(int vector) {
        if (vector < 0 || vector >= now.vectors()) {
            refusals[NO_SUCH]++;
            throw new NoSuchElementException("no such vector");
        }
    }

    private void needSet(int members) {
        needArgument(members >= 0 && members <= plan.everybody());
    }

    private void needArgument(boolean right) {
        if (!right) {
            refusals[ARGUMENT]++;
            throw new IllegalArgumentException("an argument is out of its range");
        }
    }

    private void needFragment(int member) {
        if (!now.holds(member)) {
            refusals[NULL]++;
            throw new NullPointerException("the member has no fragment");
        }
    }

    private void needIndex(boolean there) {
        if (!there) {
            refusals[INDEX]++;
            throw new IndexOutOfBoundsException("no such symbol or place");
        }
    }

    private void needInt(long number) {
        if (number > Integer.MAX_VALUE) {
            refusals[ARITHMETIC]++;
            throw new ArithmeticException("beyond 32 bits");
        }
    }

    private void refuseRubble() {
        refusals[STORE]++;
        throw new ArrayStoreException("the shelf takes fragments alone");
    }

    /** Reads a text from the left and keeps the first fault; once it failed it reads no further. */
    private static final class Reader {
        static final int CANT_STAND = 1;
        static final int NONE_SUCH = 2;
        static final int TOO_MANY = 3;
        private static final int FAR_TOO_MUCH = 1_000_000;

        private final byte[] text;
        private int place = 0;
        private int end = 0;
        private int wordFrom = 0;
        private int faultKind = 0;
        int faultPlace = NONE;

        Reader(byte[] text) {
            this.text = text;
        }

        void open(int bytes) {
            place = 0;
            end = Math.min(bytes, text.length);
            wordFrom = 0;
            faultKind = 0;
            faultPlace = NONE;
        }

        boolean hasFailed() {
            return faultKind != 0;
        }

        int answer() {
            return faultKind - 10;
        }

        boolean isOver() {
            skipBlanks();
            return hasFailed() || place >= end;
        }

        boolean isAt(char mark) {
            skipBlanks();
            return place < end && text[place] == mark;
        }

        void takeWord() {
            skipBlanks();
            wordFrom = place;
            while (place < end && text[place] >= 'a' && text[place] <= 'z') {
                place++;
            }
        }

        boolean wordIs(String word) {
            if (place - wordFrom != word.length()) {
                return false;
            }
            for (int i = 0; i < word.length(); i++) {
                if (text[wordFrom + i] != word.charAt(i)) {
                    return false;
                }
            }
            return true;
        }

        int takeNumber(int least, int most) {
            if (hasFailed()) {
                return least;
            }
            skipBlanks();
            int from = place;
            int number = 0;
            while (place < end && text[place] >= '0' && text[place] <= '9') {
                number = Math.min(number * 10 + text[place] - '0', FAR_TOO_MUCH);
                place++;
            }
            if (place == from) {
                note(CANT_STAND, from);
            } else if (number < least || number > most) {
                note(NONE_SUCH, from);
            }
            return number;
        }

        int nextPlace() {
            skipBlanks();
            return place;
        }

        void takeMark(char mark) {
            if (isAt(mark)) {
                place++;
            } else {
                note(CANT_STAND, place);
            }
        }

        void noteAtWord(int kind) {
            note(kind, wordFrom);
        }

        void note(int kind, int where) {
            if (!hasFailed()) {
                faultKind = kind;
                faultPlace = where;
            }
        }

        private void skipBlanks() {
            while (place < end && text[place] == ' ') {
                place++;
            }
        }
    }

    /** What a DISPERSAL tells: the group, the stripes, the file, the traitors. */
    private static final class Plan {
        private static final int MOST_CLAUSES = 60;

        int members = 0;
        int trust = 0;
        int stripes = 0;
        int traitors = 0;
        private int symbols = 0;
        private final int[] file = new int[MOST_SYMBOLS];

        void begin() {
            members = 4;
            trust = 1;
            stripes = 2;
            traitors = 0;
            symbols = 0;
            Arrays.fill(file, 0);
        }

        void takeFrom(Plan other) {
            members = other.members;
            trust = other.trust;
            stripes = other.stripes;
            traitors = other.traitors & other.everybody();
            symbols = other.symbols;
            System.arraycopy(other.file, 0, file, 0, MOST_SYMBOLS);
        }

        void read(Reader reader) {
            begin();
            for (int clauses = 0; clauses <= MOST_CLAUSES && !reader.isOver(); clauses++) {
                readClause(reader, clauses);
            }
        }

        private void readClause(Reader reader, int ahead) {
            reader.takeWord();
            boolean isGroup = reader.wordIs("group");
            boolean isStripes = reader.wordIs("stripes");
            boolean isSymbol = reader.wordIs("symbol");
            if (!isGroup && !isStripes && !isSymbol && !reader.wordIs("traitor")) {
                reader.noteAtWord(Reader.CANT_STAND);
            } else if (ahead >= MOST_CLAUSES || isSymbol && symbols >= MOST_SYMBOLS) {
                reader.noteAtWord(Reader.TOO_MANY);
            } else if (isGroup) {
                members = reader.takeNumber(1, MOST_MEMBERS);
                trust = reader.takeNumber(0, (members - 1) / 3);
            } else if (isStripes) {
                stripes = reader.takeNumber(1, MOST_STRIPES);
            } else if (isSymbol) {
                file[symbols] = reader.takeNumber(0, PRIME - 1);
                symbols++;
            } else {
                traitors |= 1 << reader.takeNumber(0, MOST_MEMBERS - 1);
            }
            reader.takeMark(';');
        }

        int everybody() {
            return (1 << members) - 1;
        }

        /** K: how many symbols a stripe has, and how many fragments give the file back. */
        int width() {
            return trust + 1;
        }

        boolean hasStripe(int j) {
            return j >= 0 && j < stripes;
        }

        boolean isTraitor(int m) {
            return (traitors >> m & 1) == 1;
        }

        int codeAt(int x, int stripe) {
            return codeOf(file, x, stripe);
        }

        int codeOf(int[] symbolsOfFile, int x, int stripe) {
            int width = width();
            int value = 0;
            for (int i = width - 1; i >= 0; i--) {
                value = (value * x + symbolsOfFile[width * stripe + i]) % PRIME;
            }
            return value;
        }
    }

    /** All that WORK changes, in one row, so that one copy of it is a whole picture. */
    private static final class World {
        // A member says twice at most, and each of these is heard once by each other one; a
        // traitor says nothing meanwhile. So no run of turns comes near to this.
        static final int MOST_TURNS = 1000;

        private static final int SUM_RING = 1_000_000;
        private static final int PAIRS = MOST_MEMBERS * MOST_MEMBERS;
        private static final int UP = 0;
        private static final int DEALT = 1;
        private static final int HOLDING = 2;
        private static final int VECTORS = 3;
        private static final int DEALT_BY = 4;
        private static final int DONE_BY = DEALT_BY + MOST_MEMBERS;
        private static final int HEARD = DONE_BY + MOST_MEMBERS;
        private static final int HELD = HEARD + 2 * PAIRS;
        private static final int OFFERED = HELD + MOST_MEMBERS * MOST_STRIPES;
        private static final int OFFERED_VECTOR = OFFERED + MOST_MEMBERS * MOST_STRIPES;
        private static final int SUMS = OFFERED_VECTOR + MOST_MEMBERS;
        static final int SIZE = SUMS + MOST_VECTORS * MOST_MEMBERS;

        final Plan plan;
        final int[] cells = new int[SIZE];
        private final int[] echoes = new int[MOST_VECTORS];
        private final int[] readies = new int[MOST_VECTORS];

        World(Plan plan) {
            this.plan = plan;
        }

        void begin() {
            Arrays.fill(cells, 0);
            cells[UP] = plan.everybody();
            cells[VECTORS] = 1;
            for (int at = DEALT_BY; at < HELD; at++) {
                cells[at] = NONE;
            }
            for (int m = 0; m < plan.members; m++) {
                for (int j = 0; j < plan.stripes; j++) {
                    cells[OFFERED + m * MOST_STRIPES + j] = plan.codeAt(m + 1, j);
                }
                cells[SUMS + m] = sumFrom(OFFERED, m);
            }
        }

        void copyFrom(int[] row) {
            System.arraycopy(row, 0, cells, 0, SIZE);
        }

        int vectors() {
            return cells[VECTORS];
        }

        int upBits() {
            return cells[UP];
        }

        int dealtBits() {
            return cells[DEALT];
        }

        int holdingBits() {
            return cells[HOLDING];
        }

        int doneBits() {
            int bits = 0;
            for (int m = 0; m < plan.members; m++) {
                bits |= doneBy(m) != NONE ? 1 << m : 0;
            }
            return bits;
        }

        int readyBits() {
            int bits = 0;
            for (int m = 0; m < plan.members; m++) {
                bits |= said(m, READY) != NONE ? 1 << m : 0;
            }
            return bits;
        }

        boolean isUp(int m) {
            return (cells[UP] >> m & 1) == 1;
        }

        boolean holds(int m) {
            return (cells[HOLDING] >> m & 1) == 1;
        }

        int dealtBy(int m) {
            return cells[DEALT_BY + m];
        }

        int doneBy(int m) {
            return cells[DONE_BY + m];
        }

        int heardOf(int m, int other, int what) {
            return cells[HEARD + what * PAIRS + m * MOST_MEMBERS + other];
        }

        /** A member hears itself at once: what it heard of itself is what it said last. */
        int said(int m, int what) {
            return cells[HEARD + what * PAIRS + m * (MOST_MEMBERS + 1)];
        }

        int held(int m, int j) {
            return cells[HELD + m * MOST_STRIPES + j];
        }

        int heldSum(int m) {
            return sumFrom(HELD, m);
        }

        int offered(int m, int j) {
            return cells[OFFERED + m * MOST_STRIPES + j];
        }

        int offeredVector(int m) {
            return cells[OFFERED_VECTOR + m];
        }

        int sumIn(int vector, int m) {
            return cells[SUMS + vector * MOST_MEMBERS + m];
        }

        int stage(int m) {
            if (doneBy(m) != NONE) {
                return 3;
            }
            if (said(m, READY) != NONE) {
                return 2;
            }
            return said(m, ECHO) != NONE ? 1 : 0;
        }

        int voicesFor(int m, int vector, int what) {
            int voices = 0;
            for (int other = 0; other < plan.members; other++) {
                if (heardOf(m, other, what) == vector) {
                    voices++;
                }
            }
            return voices;
        }

        private int sumFrom(int row, int m) {
            int sum = 0;
            for (int j = plan.stripes - 1; j >= 0; j--) {
                sum = sum * PRIME + cells[row + m * MOST_STRIPES + j];
            }
            return sum;
        }

        // Each step answers whether it could be done.

        boolean deal(int m) {
            if (!isUp(m) || (cells[DEALT] >> m & 1) == 1) {
                return false;
            }
            int vector = offeredVector(m);
            cells[DEALT] |= 1 << m;
            cells[DEALT_BY + m] = vector;
            if (sumFrom(OFFERED, m) != sumIn(vector, m)) {
                return true;
            }
            int at = m * MOST_STRIPES;
            System.arraycopy(cells, OFFERED + at, cells, HELD + at, MOST_STRIPES);
            cells[HOLDING] |= 1 << m;
            if (!plan.isTraitor(m)) {
                utter(m, vector, ECHO);
                act(m);
            }
            return true;
        }

        int dealToAll(int members) {
            int deals = 0;
            for (int m = 0; m < plan.members; m++) {
                if ((members >> m & 1) == 1 && deal(m)) {
                    deals++;
                }
            }
            return deals;
        }

        // Whoever is no traitor has acted on all that it heard, so a hearing changes something
        // just if what it hears is unlike what it heard ahead.
        boolean canHear(int m, int other) {
            return m != other && isUp(m)
                && (heardOf(m, other, ECHO) != said(other, ECHO)
                    || heardOf(m, other, READY) != said(other, READY));
        }

        boolean hear(int m, int other) {
            if (!canHear(m, other)) {
                return false;
            }
            keepHeard(m, other, said(other, ECHO), ECHO);
            keepHeard(m, other, said(other, READY), READY);
            if (!plan.isTraitor(m)) {
                act(m);
            }
            return true;
        }

        boolean taint(int m, int j, int more) {
            addTo(OFFERED, m, j, more);
            return true;
        }

        boolean skew(int m, int of, int more) {
            int from = offeredVector(m);
            int to = vectorLike(from, of, more);
            if (to >= MOST_VECTORS) {
                return false;
            }
            if (to == vectors()) {
                System.arraycopy(cells, SUMS + from * MOST_MEMBERS, cells, SUMS + to * MOST_MEMBERS, MOST_MEMBERS);
                cells[SUMS + to * MOST_MEMBERS + of] = (sumIn(from, of) + more) % SUM_RING;
                cells[VECTORS]++;
            }
            cells[OFFERED_VECTOR + m] = to;
            return true;
        }

        private int vectorLike(int from, int of, int more) {
            for (int v = 0; v < vectors(); v++) {
                if (isLike(v, from, of, more)) {
                    return v;
                }
            }
            return vectors();
        }

        private boolean isLike(int vector, int from, int of, int more) {
            for (int m = 0; m < plan.members; m++) {
                int sum = m == of ? (sumIn(from, m) + more) % SUM_RING : sumIn(from, m);
                if (sumIn(vector, m) != sum) {
                    return false;
                }
            }
            return true;
        }

        boolean say(int m, int vector, int what) {
            if (!plan.isTraitor(m) || !isUp(m) || vector >= vectors() || said(m, what) == vector) {
                return false;
            }
            utter(m, vector, what);
            return true;
        }

        boolean forge(int m, int j, int more) {
            if (!plan.isTraitor(m) || !holds(m)) {
                return false;
            }
            addTo(HELD, m, j, more);
            return true;
        }

        boolean crash(int m) {
            if (!isUp(m)) {
                return false;
            }
            cells[UP] &= ~(1 << m);
            return true;
        }

        int allHearAll() {
            int turns = 0;
            while (turns < MOST_TURNS && turn()) {
                turns++;
            }
            return turns;
        }

        boolean turn() {
            boolean changed = false;
            for (int m = 0; m < plan.members; m++) {
                for (int other = 0; other < plan.members; other++) {
                    changed |= hear(m, other);
                }
            }
            return changed;
        }

        private void addTo(int row, int m, int j, int more) {
            int at = row + m * MOST_STRIPES + j;
            cells[at] = (cells[at] + more) % PRIME;
        }

        private void keepHeard(int m, int other, int vector, int what) {
            cells[HEARD + what * PAIRS + m * MOST_MEMBERS + other] = vector;
        }

        private void utter(int m, int vector, int what) {
            cells[HEARD + what * PAIRS + m * (MOST_MEMBERS + 1)] = vector;
        }

        // What it says changes its own READY of that vector alone, and by that one it may be DONE,
        // which is looked at next: so one pass over the vectors leaves nothing to change.
        private void act(int m) {
            if (doneBy(m) != NONE) {
                return;
            }
            tally(m, ECHO, echoes);
            tally(m, READY, readies);
            for (int v = 0; v < vectors(); v++) {
                sayReadyIfDue(m, v);
                beDoneIfDue(m, v);
            }
        }

        private void tally(int m, int what, int[] voices) {
            Arrays.fill(voices, 0);
            for (int other = 0; other < plan.members; other++) {
                int vector = heardOf(m, other, what);
                if (vector >= 0 && vector < voices.length) {
                    voices[vector]++;
                }
            }
        }

        private void sayReadyIfDue(int m, int vector) {
            boolean isDue = echoes[vector] >= plan.members - plan.trust || readies[vector] >= plan.trust + 1;
            if (isDue && said(m, READY) == NONE) {
                utter(m, vector, READY);
                readies[vector]++;
            }
        }

        private void beDoneIfDue(int m, int vector) {
            if (readies[vector] >= 2 * plan.trust + 1 && doneBy(m) == NONE) {
                cells[DONE_BY + m] = vector;
            }
        }
    }

    /** A world as it was, above the works that could be undone then; never changed, so shared. */
    private static final class Snapshot {
        final int[] cells;
        final Snapshot below;
        final int depth;

        Snapshot(World world, Snapshot below) {
            this.cells = world.cells.clone();
            this.below = below;
            this.depth = below == null ? 1 : below.depth + 1;
        }
    }

    /** A WORK: read whole first, so that nothing is done of one with a fault. */
    private static final class Script {
        private static final int MOST_OPEN = 6;
        private static final int MOST_BEGUN = 200;
        // The shortest step, "deal0;", has six bytes.
        private static final int MOST_STEPS = MOST_WORK_BYTES / 6;

        private static final int DEAL = 0;
        private static final int HEAR = 1;
        private static final int TAINT = 2;
        private static final int SKEW = 3;
        private static final int SAY = 4;
        private static final int FORGE = 5;
        private static final int CRASH = 6;
        private static final int AGAIN = 7;

        private final int[] kinds = new int[MOST_STEPS];
        private final int[] ones = new int[MOST_STEPS];
        private final int[] twos = new int[MOST_STEPS];
        private final int[] threes = new int[MOST_STEPS];
        private final int[] behinds = new int[MOST_STEPS];
        private int size = 0;
        private final int[] opens = new int[MOST_OPEN];
        private int open = 0;
        private int begun = 0;
        int done = 0;
        int refused = 0;

        void read(Reader reader, Plan plan) {
            size = 0;
            open = 0;
            for (int i = 0; i < MOST_WORK_BYTES && !reader.isOver(); i++) {
                if (open > 0 && reader.isAt(']')) {
                    shutAgain(reader);
                } else {
                    readStep(reader, plan);
                }
            }
            if (open > 0) {
                reader.note(Reader.CANT_STAND, reader.nextPlace());
            }
        }

        private void shutAgain(Reader reader) {
            open--;
            behinds[opens[open]] = size;
            reader.takeMark(']');
            reader.takeMark(';');
        }

        private void readStep(Reader reader, Plan plan) {
            reader.takeWord();
            int kind = kindOf(reader);
            if (kind == NONE || size >= MOST_STEPS) {
                reader.noteAtWord(Reader.CANT_STAND);
            } else if (kind == AGAIN && open >= MOST_OPEN) {
                reader.noteAtWord(Reader.TOO_MANY);
            } else {
                kinds[size] = kind;
                readNumbers(reader, plan, kind);
                size++;
                reader.takeMark(kind == AGAIN ? '[' : ';');
            }
        }

        private static int kindOf(Reader reader) {
            if (reader.wordIs("deal")) {
                return DEAL;
            }
            if (reader.wordIs("hear")) {
                return HEAR;
            }
            if (reader.wordIs("taint")) {
                return TAINT;
            }
            if (reader.wordIs("skew")) {
                return SKEW;
            }
            if (reader.wordIs("say")) {
                return SAY;
            }
            if (reader.wordIs("forge")) {
                return FORGE;
            }
            if (reader.wordIs("crash")) {
                return CRASH;
            }
            return reader.wordIs("again") ? AGAIN : NONE;
        }

        private void readNumbers(Reader reader, Plan plan, int kind) {
            if (kind == AGAIN) {
                ones[size] = reader.takeNumber(0, 60);
                opens[open] = size;
                open++;
                return;
            }
            ones[size] = reader.takeNumber(0, plan.members - 1);
            switch (kind) {
                case HEAR:
                    twos[size] = reader.takeNumber(0, plan.members - 1);
                    break;
                case TAINT:
                case FORGE:
                    twos[size] = reader.takeNumber(0, plan.stripes - 1);
                    threes[size] = reader.takeNumber(1, PRIME - 1);
                    break;
                case SKEW:
                    twos[size] = reader.takeNumber(0, plan.members - 1);
                    threes[size] = reader.takeNumber(1, 999);
                    break;
                case SAY:
                    twos[size] = reader.takeNumber(0, MOST_VECTORS - 1);
                    threes[size] = reader.takeNumber(ECHO, READY);
                    break;
                default:
                    break;
            }
        }

        void run(World world) {
            begun = 0;
            done = 0;
            refused = 0;
            runBlock(world, 0, size, 0);
        }

        private void runBlock(World world, int from, int to, int depth) {
            if (depth > MOST_OPEN) {
                return;
            }
            int step = from;
            while (step < to && step < MOST_STEPS && begun < MOST_BEGUN) {
                begun++;
                if (kinds[step] == AGAIN) {
                    runAgain(world, step, depth);
                    step = Math.max(step + 1, behinds[step]);
                } else {
                    tallyStep(doStep(world, step));
                    step++;
                }
            }
        }

        private void runAgain(World world, int step, int depth) {
            for (int time = 0; time < ones[step] && begun < MOST_BEGUN; time++) {
                runBlock(world, step + 1, behinds[step], depth + 1);
            }
        }

        private void tallyStep(boolean isDone) {
            if (isDone) {
                done++;
            } else {
                refused++;
            }
        }

        private boolean doStep(World world, int step) {
            int one = ones[step];
            int two = twos[step];
            int three = threes[step];
            switch (kinds[step]) {
                case DEAL: return world.deal(one);
                case HEAR: return world.hear(one, two);
                case TAINT: return world.taint(one, two, three);
                case SKEW: return world.skew(one, two, three);
                case SAY: return world.say(one, two, three);
                case FORGE: return world.forge(one, two, three);
                default: return world.crash(one);
            }
        }
    }

    /** A BOOK: which stage a member comes to. */
    private static final class Book {
        private final int[] stages = new int[MOST_MEMBERS];
        private final int[] drafted = new int[MOST_MEMBERS];
        int many = 0;

        void clear() {
            many = 0;
            Arrays.fill(stages, NONE);
        }

        void read(Reader reader, int members) {
            Arrays.fill(drafted, NONE);
            int read = 0;
            for (int i = 0; i < MOST_BOOK_BYTES && !reader.isOver(); i++) {
                readLine(reader, members);
                read++;
            }
            if (!reader.hasFailed()) {
                many = read;
                System.arraycopy(drafted, 0, stages, 0, MOST_MEMBERS);
            }
        }

        private void readLine(Reader reader, int members) {
            int place = reader.nextPlace();
            int member = reader.takeNumber(0, members - 1);
            if (!reader.hasFailed() && drafted[member] != NONE) {
                reader.note(Reader.NONE_SUCH, place);
            }
            int stage = reader.takeNumber(0, STAGES - 1);
            reader.takeMark(';');
            if (!reader.hasFailed()) {
                drafted[member] = stage;
            }
        }

        boolean hasLineOf(int m) {
            return stages[m] != NONE;
        }

        boolean isRight(World then) {
            for (int m = 0; m < then.plan.members; m++) {
                if (stages[m] != NONE && stages[m] != then.stage(m)) {
                    return false;
                }
            }
            return true;
        }
    }

    /** The sets that fit a BOOK, and how often each member comes to each stage by these. */
    private static final class Guess {
        int right = 0;
        int least = NONE;
        private final int[] comings = new int[MOST_MEMBERS * STAGES];

        void clear() {
            right = 0;
            least = NONE;
            Arrays.fill(comings, 0);
        }

        void take(int set, World then) {
            right++;
            if (least == NONE) {
                least = set;
            }
            for (int m = 0; m < then.plan.members; m++) {
                comings[m * STAGES + then.stage(m)]++;
            }
        }

        int mostAlike(int m) {
            int most = 0;
            for (int stage = 0; stage < STAGES; stage++) {
                most = Math.max(most, comings[m * STAGES + stage]);
            }
            return most;
        }
    }

    /** The polynomial through up to three points, over the numbers below 97. */
    private static final class Curve {
        private static final int MOST_POINTS = 3;

        private final int[] xs = new int[MOST_POINTS];
        private final int[] ys = new int[MOST_POINTS];
        private int points = 0;
        private final int[] part = new int[MOST_POINTS];
        final int[] factors = new int[MOST_POINTS];

        void clear() {
            points = 0;
        }

        void put(int x, int y) {
            if (points < MOST_POINTS) {
                xs[points] = x;
                ys[points] = y;
                points++;
            }
        }

        void solve() {
            Arrays.fill(factors, 0);
            for (int i = 0; i < points; i++) {
                addPartOf(i);
            }
        }

        // The part is 0 at each other point, and at its own what that point tells.
        private void addPartOf(int i) {
            Arrays.fill(part, 0);
            part[0] = 1;
            int own = 1;
            for (int other = 0; other < points; other++) {
                if (other != i) {
                    vanishAt(xs[other]);
                    own = Math.floorMod(own * (xs[i] - xs[other]), PRIME);
                }
            }
            int scale = ys[i] * inverse(own) % PRIME;
            for (int power = 0; power < points; power++) {
                factors[power] = (factors[power] + scale * part[power]) % PRIME;
            }
        }

        private void vanishAt(int root) {
            for (int power = MOST_POINTS - 1; power > 0; power--) {
                part[power] = Math.floorMod(part[power - 1] - root * part[power], PRIME);
            }
            part[0] = Math.floorMod(-root * part[0], PRIME);
        }

        // By Fermat: number to the 95th times number leaves 1.
        private static int inverse(int number) {
            int result = 1;
            int square = number;
            for (int left = PRIME - 2; left > 0; left >>= 1) {
                if ((left & 1) == 1) {
                    result = result * square % PRIME;
                }
                square = square * square % PRIME;
            }
            return result;
        }

        int at(int x) {
            int value = 0;
            for (int power = points - 1; power >= 0; power--) {
                value = (value * x + factors[power]) % PRIME;
            }
            return value;
        }

        boolean passesThrough(World world, int members) {
            for (int j = 0; j < world.plan.stripes; j++) {
                if (!stripePasses(world, members & world.holdingBits(), j)) {
                    return false;
                }
            }
            return true;
        }

        private boolean stripePasses(World world, int holders, int stripe) {
            int width = world.plan.width();
            clear();
            for (int m = 0; m < world.plan.members; m++) {
                if ((holders >> m & 1) == 0) {
                    continue;
                }
                if (points == width && at(m + 1) != world.held(m, stripe)) {
                    return false;
                }
                if (points < width) {
                    put(m + 1, world.held(m, stripe));
                    if (points == width) {
                        solve();
                    }
                }
            }
            return true;
        }
    }

    /** A FETCH: how it ends, by which vector, what is opened and shut, the file. */
    private static final class Retrieval {
        static final int TOO_FEW = 0;
        static final int VOID = 1;
        static final int FOUND = 2;

        private final Curve curve;
        int end = TOO_FEW;
        int vector = NONE;
        int opened = 0;
        int traced = 0;
        final int[] steps = new int[2 * MOST_MEMBERS];
        final int[] symbols = new int[MOST_SYMBOLS];

        Retrieval(Curve curve) {
            this.curve = curve;
        }

        void seek(World world, int members) {
            int asked = members & world.upBits();
            end = TOO_FEW;
            opened = 0;
            traced = 0;
            Arrays.fill(symbols, 0);
            vector = vectorOf(world, asked);
            if (vector == NONE) {
                return;
            }
            int good = openStores(world, asked);
            shutStores();
            if (Integer.bitCount(good) < world.plan.width()) {
                return;
            }
            decode(world, good);
            end = codesToVector(world) ? FOUND : VOID;
        }

        private static int vectorOf(World world, int asked) {
            for (int v = 0; v < world.vectors(); v++) {
                int done = 0;
                for (int m = 0; m < world.plan.members; m++) {
                    if ((asked >> m & 1) == 1 && world.doneBy(m) == v) {
                        done++;
                    }
                }
                if (done >= world.plan.trust + 1) {
                    return v;
                }
            }
            return NONE;
        }

        private int openStores(World world, int asked) {
            int good = 0;
            for (int m = 0; m < world.plan.members && Integer.bitCount(good) < world.plan.width(); m++) {
                if ((asked >> m & 1) == 0) {
                    continue;
                }
                steps[opened] = m + 1;
                opened++;
                if (world.holds(m) && world.heldSum(m) == world.sumIn(vector, m)) {
                    good |= 1 << m;
                }
            }
            return good;
        }

        private void shutStores() {
            traced = opened;
            for (int i = opened - 1; i >= 0; i--) {
                steps[traced] = -steps[i];
                traced++;
            }
        }

        private void decode(World world, int good) {
            int width = world.plan.width();
            for (int j = 0; j < world.plan.stripes; j++) {
                curve.clear();
                for (int m = 0; m < world.plan.members; m++) {
                    if ((good >> m & 1) == 1) {
                        curve.put(m + 1, world.held(m, j));
                    }
                }
                curve.solve();
                System.arraycopy(curve.factors, 0, symbols, width * j, width);
            }
        }

        private boolean codesToVector(World world) {
            for (int m = 0; m < world.plan.members; m++) {
                int sum = 0;
                for (int j = world.plan.stripes - 1; j >= 0; j--) {
                    sum = sum * PRIME + world.plan.codeOf(symbols, m + 1, j);
                }
                if (sum != world.sumIn(vector, m)) {
                    return false;
                }
            }
            return true;
        }
    }

    /** A STORM: steps drawn by a seed. */
    private static final class Storm {
        private int seed;

        Storm(int seed) {
            this.seed = seed;
        }

        void rage(World world, int many, int q) {
            for (int i = 0; i < many; i++) {
                gust(world, q);
            }
        }

        private void gust(World world, int q) {
            int members = world.plan.members;
            int kind = drawn(8);
            if (kind <= 1) {
                world.deal(drawn(members));
            } else if (kind <= 5) {
                int hearer = drawn(members);
                world.hear(hearer, drawn(members));
            } else if (kind == 7) {
                int tainted = drawn(members);
                int stripe = drawn(world.plan.stripes);
                world.taint(tainted, stripe, 1 + drawn(96));
            } else if (drawn(16) < q) {
                world.crash(drawn(members));
            }
        }

        private int drawn(int by) {
            seed = seed * 1_103_515_245 + 12_345;
            return by > 0 ? (seed >> 16 & 0x7fff) % by : 0;
        }
    }
}
