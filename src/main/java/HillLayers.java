/** A section through a hill: surfaces of layers, sights of them, and what surely follows. */
public final class HillLayers {
    public static final int NONE = -1;

    private static final int NO_ANSWER = -2147483648;
    private static final int DEEPEST = 60;
    private static final int FARTHEST_THROW = 30;
    private static final int MOST_SIGHTS = 10;
    private static final int LEAST = 0;
    private static final int GREATEST = 1;

    private final Rock rock;
    private final Sights sights;
    private final Bodies bodies;
    private final int[] grounds;

    public HillLayers(int w, int s) {
        int columns = Math.max(2, Math.min(w, 8));
        int surfaces = Math.max(1, Math.min(s, 4));
        rock = new Rock(columns, surfaces);
        sights = new Sights();
        bodies = new Bodies(rock, sights);
        grounds = new int[columns];
    }

    public boolean thick(int surface, int from, int to) {
        if (!rock.hasSurface(surface) || !rock.hasSurface(surface + 1)) {
            return false;
        }
        if (!isDepth(from) || !isDepth(to) || from > to) {
            return false;
        }
        rock.setThick(surface, from, to);
        bodies.forgetRock();
        return true;
    }

    public boolean steep(int surface, int most) {
        if (!rock.hasSurface(surface) || !isDepth(most)) {
            return false;
        }
        rock.setSteep(surface, most);
        bodies.forgetRock();
        return true;
    }

    public boolean fault(int column, int thrown) {
        if (!rock.hasNextColumn(column) || !isWithin(thrown, FARTHEST_THROW)) {
            return false;
        }
        rock.breakAt(column, thrown);
        bodies.forgetRock();
        return true;
    }

    public boolean heal(int column) {
        if (!rock.isBroken(column)) {
            return false;
        }
        rock.mendAt(column);
        bodies.forgetRock();
        return true;
    }

    public boolean ground(int column, int depth) {
        if (column < 0 || column >= grounds.length || !isDepth(depth)) {
            return false;
        }
        grounds[column] = depth;
        return true;
    }

    public int sight(int where, int z, int miss) {
        if (where < 0 || !isWithin(z, DEEPEST) || !isDepth(miss)) {
            return NONE;
        }
        int surface = where / 100;
        int column = where / 10 % 10;
        int kind = where % 10;
        if (!rock.hasPlace(surface, column) || kind > Sight.STEP) {
            return NONE;
        }
        if (kind == Sight.STEP && !rock.hasNextColumn(column)) {
            return NONE;
        }
        int number = sights.add(new Sight(surface, column, kind, z, miss));
        if (number != NONE) {
            bodies.forgetQuarrel();
        }
        return number;
    }

    public boolean take(int sight) {
        if (!sights.remove(sight)) {
            return false;
        }
        bodies.forgetQuarrel();
        return true;
    }

    public int quarrel() {
        return bodies.areSome() ? bodies.leftOut() : NONE;
    }

    public int span(int surface, int column, int what) {
        if (!rock.hasPlace(surface, column) || !isEnd(what) || !bodies.areSome()) {
            return NONE;
        }
        return end(rock.placeOf(surface, column), what);
    }

    public int open() {
        return bodies.areSome() ? bodies.agreed().openSum() : NONE;
    }

    public int layer(int column, int depth) {
        if (!rock.hasPlace(0, column) || !isDepth(depth) || !bodies.areSome()) {
            return NONE;
        }
        int atLeast = 0;
        int atMost = 0;
        for (int surface = 0; surface < rock.surfaces(); surface++) {
            int place = rock.placeOf(surface, column);
            if (end(place, GREATEST) <= depth) {
                atLeast++;
            }
            if (end(place, LEAST) <= depth) {
                atMost++;
            }
        }
        return atLeast == atMost ? atLeast : NONE;
    }

    public int between(int one, int other, int what) {
        if (!isPlaceCode(one) || !isPlaceCode(other) || !isEnd(what) || !bodies.areSome()) {
            return NO_ANSWER;
        }
        int from = rock.placeOf(one / 10, one % 10);
        int to = rock.placeOf(other / 10, other % 10);
        Gaps gaps = bodies.agreed();
        return what == LEAST ? -gaps.most(to, from) : gaps.most(from, to);
    }

    public int worn(int surface, int column) {
        if (!rock.hasPlace(surface, column) || !bodies.areSome() || column >= grounds.length) {
            return NONE;
        }
        int place = rock.placeOf(surface, column);
        if (end(place, GREATEST) < grounds[column]) {
            return 2;
        }
        return end(place, LEAST) < grounds[column] ? 1 : 0;
    }

    public int tells(int surface, int column) {
        if (!rock.hasPlace(surface, column) || !bodies.areSome()) {
            return NONE;
        }
        return gain(rock.placeOf(surface, column));
    }

    public int next() {
        if (!bodies.areSome()) {
            return NONE;
        }
        int best = NONE;
        int bestGain = NONE;
        for (int surface = 0; surface < rock.surfaces(); surface++) {
            for (int column = 0; column < rock.columns(); column++) {
                int gain = gain(rock.placeOf(surface, column));
                if (gain > bestGain) {
                    bestGain = gain;
                    best = surface * 10 + column;
                }
            }
        }
        return best;
    }

    public int bend(int what) {
        if (!isEnd(what) || !bodies.areSome()) {
            return NONE;
        }
        int sum = 0;
        for (int surface = 0; surface < rock.surfaces(); surface++) {
            for (int column = 1; column + 1 < rock.columns(); column++) {
                int here = end(rock.placeOf(surface, column), what);
                int before = end(rock.placeOf(surface, column - 1), what);
                int after = end(rock.placeOf(surface, column + 1), what);
                sum += Math.abs(2 * here - before - after);
            }
        }
        return sum;
    }

    public int told(int sight, int what) {
        Sight asked = sights.at(sight);
        if (asked == null) {
            return NO_ANSWER;
        }
        switch (what) {
            case 0:
                return asked.surface();
            case 1:
                return asked.column();
            case 2:
                return asked.kind();
            case 3:
                return asked.z();
            case 4:
                return asked.miss();
            case 5:
                return bodies.areSome() ? (bodies.leftOut() >> sight) & 1 : NO_ANSWER;
            default:
                return NO_ANSWER;
        }
    }

    public int count(int what) {
        switch (what) {
            case 0:
                return rock.columns();
            case 1:
                return rock.surfaces();
            case 2:
                return Integer.bitCount(sights.heap());
            case 3:
                return rock.faults();
            default:
                return NONE;
        }
    }

    private static boolean isDepth(int number) {
        return number >= 0 && number <= DEEPEST;
    }

    private static boolean isWithin(int number, int limit) {
        return number >= -limit && number <= limit;
    }

    private static boolean isEnd(int what) {
        return what == LEAST || what == GREATEST;
    }

    private boolean isPlaceCode(int code) {
        return code >= 0 && rock.hasPlace(code / 10, code % 10);
    }

    private int end(int place, int what) {
        Gaps gaps = bodies.agreed();
        return what == LEAST ? gaps.least(place) : gaps.greatest(place);
    }

    private int gain(int place) {
        Gaps gaps = bodies.agreed();
        int greatest = gaps.greatest(place);
        int stillOpen = 0;
        for (int depth = gaps.least(place); depth <= greatest; depth++) {
            stillOpen = Math.max(stillOpen, gaps.openSumAfterBore(place, depth));
        }
        return gaps.openSum() - stillOpen;
    }

    /**
     * How much deeper each place is than each other one, at most. Place TOP is depth 0 itself, so
     * that a depth is a gap too. The gaps are always the narrowest that follow from one another,
     * so each of them is reached by a body, and so are all least depths (or all greatest) at once.
     */
    private static final class Gaps {
        static final int TOP = 0;
        private static final int MOST_PLACES = 32;

        private final int size;
        private final int[] widths;

        Gaps(int places) {
            size = Math.max(0, Math.min(places, MOST_PLACES)) + 1;
            widths = new int[size * size];
        }

        /** Nothing is told but that depths are from 0 to the deepest. */
        void clear() {
            for (int from = 0; from < size; from++) {
                for (int to = 0; to < size; to++) {
                    boolean neverDeeper = from == to || to == TOP;
                    widths[from * size + to] = neverDeeper ? 0 : DEEPEST;
                }
            }
        }

        void copyFrom(Gaps other) {
            if (other != null && other.size == size) {
                System.arraycopy(other.widths, 0, widths, 0, widths.length);
            }
        }

        int most(int from, int to) {
            return isPlace(from) && isPlace(to) ? widths[from * size + to] : 0;
        }

        int least(int place) {
            return -most(place, TOP);
        }

        int greatest(int place) {
            return most(TOP, place);
        }

        /** Tells how much deeper 'to' is than 'from'; false, and nothing told, if no body is left. */
        boolean hold(int from, int to, int least, int greatest) {
            if (!isPlace(from) || !isPlace(to) || least > greatest) {
                return false;
            }
            if (greatest < -widths[to * size + from] || least > widths[from * size + to]) {
                return false;
            }
            narrow(from, to, greatest);
            narrow(to, from, -least);
            return true;
        }

        /** Only for places that hold has tested: so the narrowed gaps stay what bodies can reach. */
        private void narrow(int from, int to, int width) {
            if (width >= widths[from * size + to]) {
                return;
            }
            for (int start = 0; start < size; start++) {
                int reach = widths[start * size + from] + width;
                // A start that comes no nearer to 'to' comes no nearer to any place behind it.
                if (reach >= widths[start * size + to]) {
                    continue;
                }
                for (int end = 0; end < size; end++) {
                    int through = reach + widths[to * size + end];
                    widths[start * size + end] = Math.min(widths[start * size + end], through);
                }
            }
        }

        int openSum() {
            int sum = 0;
            for (int place = TOP + 1; place < size; place++) {
                sum += greatest(place) - least(place);
            }
            return sum;
        }

        int openSumAfterBore(int bored, int depth) {
            if (!isPlace(bored)) {
                return 0;
            }
            int sum = 0;
            for (int place = TOP + 1; place < size; place++) {
                int greatest = Math.min(widths[place], depth + widths[bored * size + place]);
                int least = Math.max(-widths[place * size], depth - widths[place * size + bored]);
                sum += greatest - least;
            }
            return sum;
        }

        private boolean isPlace(int place) {
            return place >= 0 && place < size;
        }
    }

    /** What is told of the layers themselves: how thick, how steep, where broken. */
    private static final class Rock {
        private static final int STEEP_AT_FIRST = 5;

        private final int columns;
        private final int surfaces;
        private final int[] thickFrom;
        private final int[] thickTo;
        private final int[] steepest;
        private final int[] throwAfter;
        private final boolean[] brokenAfter;

        Rock(int columns, int surfaces) {
            this.columns = Math.max(columns, 1);
            this.surfaces = Math.max(surfaces, 1);
            thickFrom = new int[this.surfaces];
            thickTo = new int[this.surfaces];
            steepest = new int[this.surfaces];
            for (int surface = 0; surface < this.surfaces; surface++) {
                thickFrom[surface] = 1;
                thickTo[surface] = DEEPEST;
                steepest[surface] = STEEP_AT_FIRST;
            }
            throwAfter = new int[this.columns];
            brokenAfter = new boolean[this.columns];
        }

        int columns() {
            return columns;
        }

        int surfaces() {
            return surfaces;
        }

        int places() {
            return columns * surfaces;
        }

        boolean hasSurface(int surface) {
            return surface >= 0 && surface < surfaces;
        }

        boolean hasColumn(int column) {
            return column >= 0 && column < columns;
        }

        boolean hasNextColumn(int column) {
            return column >= 0 && column < columns - 1;
        }

        boolean hasPlace(int surface, int column) {
            return hasSurface(surface) && hasColumn(column);
        }

        int placeOf(int surface, int column) {
            return Gaps.TOP + 1 + surface * columns + column;
        }

        void setThick(int surface, int from, int to) {
            if (hasSurface(surface)) {
                thickFrom[surface] = from;
                thickTo[surface] = to;
            }
        }

        void setSteep(int surface, int most) {
            if (hasSurface(surface)) {
                steepest[surface] = most;
            }
        }

        void breakAt(int column, int thrown) {
            if (hasNextColumn(column)) {
                throwAfter[column] = thrown;
                brokenAfter[column] = true;
            }
        }

        /** Without a fault the throw is 0, so that a step needs no other case. */
        void mendAt(int column) {
            if (hasNextColumn(column)) {
                throwAfter[column] = 0;
                brokenAfter[column] = false;
            }
        }

        boolean isBroken(int column) {
            return hasNextColumn(column) && brokenAfter[column];
        }

        int faults() {
            int faults = 0;
            for (int column = 0; column < columns; column++) {
                if (isBroken(column)) {
                    faults++;
                }
            }
            return faults;
        }

        /** Narrows the gaps to what is told here; false if no body is left. */
        boolean bind(Gaps gaps) {
            for (int surface = 0; surface < surfaces; surface++) {
                for (int column = 0; column < columns; column++) {
                    if (!bindThick(gaps, surface, column) || !bindStep(gaps, surface, column)) {
                        return false;
                    }
                }
            }
            return true;
        }

        private boolean bindThick(Gaps gaps, int surface, int column) {
            if (!hasPlace(surface, column) || !hasSurface(surface + 1)) {
                return true;
            }
            int upper = placeOf(surface, column);
            int lower = placeOf(surface + 1, column);
            return gaps.hold(upper, lower, thickFrom[surface], thickTo[surface]);
        }

        private boolean bindStep(Gaps gaps, int surface, int column) {
            if (!hasSurface(surface) || !hasNextColumn(column)) {
                return true;
            }
            int here = placeOf(surface, column);
            int beside = placeOf(surface, column + 1);
            int thrown = throwAfter[column];
            int most = steepest[surface];
            return gaps.hold(here, beside, thrown - most, thrown + most);
        }
    }

    /** One sight: what was told of a place, or (STEP) of a place and the one in the next column. */
    private static final class Sight {
        static final int NEAR = 0;
        static final int NOT_LESS = 1;
        static final int NOT_MORE = 2;
        static final int STEP = 3;

        private final int surface;
        private final int column;
        private final int kind;
        private final int z;
        private final int miss;

        Sight(int surface, int column, int kind, int z, int miss) {
            this.surface = surface;
            this.column = column;
            this.kind = kind;
            this.z = z;
            this.miss = miss;
        }

        int surface() {
            return surface;
        }

        int column() {
            return column;
        }

        int kind() {
            return kind;
        }

        int z() {
            return z;
        }

        int miss() {
            return miss;
        }

        /** Narrows the gaps to what is told here; false if no body is left. */
        boolean bind(Gaps gaps, Rock rock) {
            int place = rock.placeOf(surface, column);
            switch (kind) {
                case NEAR:
                    return gaps.hold(Gaps.TOP, place, z - miss, z + miss);
                case NOT_LESS:
                    return gaps.hold(Gaps.TOP, place, z, DEEPEST);
                case NOT_MORE:
                    return gaps.hold(Gaps.TOP, place, 0, z);
                default:
                    return gaps.hold(place, rock.placeOf(surface, column + 1), z - miss, z + miss);
            }
        }
    }

    /** The sights by their numbers; one that went leaves its number empty. */
    private static final class Sights {
        private final Sight[] byNumber = new Sight[MOST_SIGHTS];
        private int came = 0;

        int add(Sight sight) {
            if (came >= byNumber.length) {
                return NONE;
            }
            byNumber[came] = sight;
            came++;
            return came - 1;
        }

        boolean remove(int number) {
            if (at(number) == null) {
                return false;
            }
            byNumber[number] = null;
            return true;
        }

        Sight at(int number) {
            return number >= 0 && number < byNumber.length ? byNumber[number] : null;
        }

        int came() {
            return came;
        }

        /** All sights that are there, as bits. */
        int heap() {
            int heap = 0;
            for (int number = 0; number < came; number++) {
                if (at(number) != null) {
                    heap |= 1 << number;
                }
            }
            return heap;
        }
    }

    /** All bodies that agree, found anew only when something told has changed. */
    private static final class Bodies {
        private final Rock rock;
        private final Sights sights;
        /** steps[n] is what holds with sight n and those kept of the higher ones, and none below. */
        private final Gaps[] steps = new Gaps[MOST_SIGHTS];
        private final Gaps withoutSights;
        private final Gaps agreed;
        private boolean rockIsBound = false;
        private boolean quarrelIsFound = false;
        private boolean hillStands = false;
        private int leftOut = 0;

        Bodies(Rock rock, Sights sights) {
            this.rock = rock;
            this.sights = sights;
            for (int step = 0; step < steps.length; step++) {
                steps[step] = new Gaps(rock.places());
            }
            withoutSights = new Gaps(rock.places());
            agreed = new Gaps(rock.places());
        }

        void forgetRock() {
            rockIsBound = false;
            quarrelIsFound = false;
        }

        void forgetQuarrel() {
            quarrelIsFound = false;
        }

        /** Whether there is a hill; what else is asked here holds after this answered true. */
        boolean areSome() {
            if (!rockIsBound) {
                withoutSights.clear();
                hillStands = rock.bind(withoutSights);
                rockIsBound = true;
            }
            if (hillStands && !quarrelIsFound) {
                findQuarrel();
                quarrelIsFound = true;
            }
            return hillStands;
        }

        int leftOut() {
            return leftOut;
        }

        Gaps agreed() {
            return agreed;
        }

        /** At first all sights are out: that leaves a body, for there is a hill. */
        private void findQuarrel() {
            leftOut = sights.heap();
            agreed.copyFrom(withoutSights);
            decide(this, withoutSights, Math.min(sights.came(), steps.length), 0);
        }

        /**
         * Decides the sights below a number, the highest first and each kept before it is left
         * out: so the heaps come in rising order, and the first of the fewest is the least one.
         */
        private static void decide(Bodies bodies, Gaps decided, int undecided, int out) {
            if (Integer.bitCount(out) >= Integer.bitCount(bodies.leftOut)) {
                return;
            }
            if (undecided > bodies.steps.length) {
                return;
            }
            if (undecided <= 0) {
                bodies.leftOut = out;
                bodies.agreed.copyFrom(decided);
                return;
            }
            int number = undecided - 1;
            Sight sight = bodies.sights.at(number);
            Gaps step = bodies.steps[number];
            step.copyFrom(decided);
            if (sight == null || sight.bind(step, bodies.rock)) {
                decide(bodies, step, number, out);
            }
            if (sight != null) {
                decide(bodies, decided, number, out | 1 << number);
            }
        }
    }
}
