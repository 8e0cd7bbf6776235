import java.util.Arrays;

/**
 * What a load of one does to a row of beams, wherever it stands, as exact fractions.
 *
 * The moves and turns of the row solve one symmetric system of whole numbers, whose inverse
 * stands over one common divisor: so every value is one fraction, and nothing is rounded.
 */
public final class InfluenceRows {
    public static final int BAD = -1, NONE = -2;

    private static final int MOST_ROWS = 8;
    private static final int LAST_PLACE = 4;
    private static final int MOMENT = 0;
    private static final int MOVE = 2;
    private static final int REACTION = 3;
    private static final long MOST = 1000;

    // Parts of one fraction are asked one after another: a key says which one the ratio holds.
    private static final long NOTHING_TOLD = -1;
    private static final long FIRST_AREA = 200;
    private static final long FIRST_MOVE = 1000;

    private final Beams beams;
    private final Beams draft;
    private final Sheet sheet;
    private final Frame frame;
    private final Probe probe;
    private final Probe mirror;
    private final Areas areas;
    private final Ratio ratio;
    private final Big register;
    private final int[] rowWhat;
    private final int[] rowBeam;
    private final int[] rowPlace;
    private int rows;
    private long toldKey;

    public InfluenceRows() {
        beams = new Beams();
        draft = new Beams();
        sheet = new Sheet();
        frame = new Frame(beams);
        probe = new Probe(beams, frame);
        mirror = new Probe(beams, frame);
        areas = new Areas();
        ratio = new Ratio();
        register = new Big();
        rowWhat = new int[MOST_ROWS];
        rowBeam = new int[MOST_ROWS];
        rowPlace = new int[MOST_ROWS];
        rows = 0;
        toldKey = NOTHING_TOLD;
    }

    public boolean unit(int u) {
        return sheet.collect(u);
    }

    public int read() {
        int made = sheet.tell(draft);
        sheet.empty();
        if (made > 0) {
            beams.take(draft);
            rows = 0;
            changed();
        }
        return made;
    }

    public boolean member(int k, long length, long stiff) throws ArrayIndexOutOfBoundsException {
        checkBeam(k);
        if (!Beams.isNumber(length) || !Beams.isNumber(stiff)) {
            return false;
        }
        beams.span[k] = length;
        beams.stiff[k] = stiff;
        changed();
        return true;
    }

    public boolean support(int node, int axis, boolean on) throws ArrayIndexOutOfBoundsException {
        checkNode(node);
        if (axis != 0 && axis != 1) {
            return false;
        }
        boolean[] held = axis == 0 ? beams.high : beams.stayed;
        boolean before = held[node];
        held[node] = on;
        if (!beams.high[node]) {
            beams.sunk[node] = 0;
        }
        changed();
        return before;
    }

    public boolean hinge(int member, int end, boolean on) throws ArrayIndexOutOfBoundsException {
        checkBeam(member);
        if (end != 0 && end != 1) {
            return false;
        }
        boolean before = beams.pin[2 * member + end];
        beams.pin[2 * member + end] = on;
        changed();
        return before;
    }

    public int solve() {
        frame.prepare();
        return frame.looseNodes();
    }

    public int loose(int k) {
        frame.prepare();
        return frame.looseNode(k);
    }

    public int row(int what, int member, int place) {
        if (rows >= MOST_ROWS || !canBeTold(what, member, place)) {
            return BAD;
        }
        rowWhat[rows] = what;
        rowBeam[rows] = member;
        rowPlace[rows] = place;
        rows++;
        return rows - 1;
    }

    public long at(int row, int member, int place, int part) {
        frame.prepare();
        if (!isAnswered(row, part) || !isPlace(member, place)) {
            return refusal(part);
        }
        long key = (row * 3 + member) * 5 + place;
        if (key != toldKey) {
            probe.aim(rowWhat[row], rowBeam[row], rowPlace[row]);
            probe.put(member, place);
            probe.measure(ratio.upper);
            probe.under(ratio.lower);
            ratio.reduce();
            toldKey = key;
        }
        return ratio.part(part);
    }

    public long area(int row, int sign, int part) {
        frame.prepare();
        if (!isAnswered(row, part) || (sign != 1 && sign != -1)) {
            return refusal(part);
        }
        long key = FIRST_AREA + row * 2 + (sign > 0 ? 1 : 0);
        if (key != toldKey) {
            probe.aim(rowWhat[row], rowBeam[row], rowPlace[row]);
            areas.measure(probe, beams, sign, ratio);
            ratio.reduce();
            toldKey = key;
        }
        return ratio.part(part);
    }

    public boolean turned(int row) {
        frame.prepare();
        if (!isRow(row) || rowWhat[row] != MOVE || isLoose()) {
            return false;
        }
        boolean same = true;
        for (int k = 0; k < beams.many; k++) {
            for (int place = 0; place <= LAST_PLACE; place++) {
                same = same && isExchanged(row, k, place);
            }
        }
        return same;
    }

    public boolean sums() {
        frame.prepare();
        if (isLoose()) {
            return false;
        }
        probe.aimAtAllReactions();
        boolean same = true;
        for (int k = 0; k < beams.many; k++) {
            for (int place = 0; place <= LAST_PLACE; place++) {
                probe.put(k, place);
                probe.measure(register);
                probe.under(ratio.lower);
                same = same && register.isSame(ratio.lower);
            }
        }
        toldKey = NOTHING_TOLD;
        return same;
    }

    public boolean settled(int node, long v) {
        if (!isHeld(node) || v < -MOST || v > MOST) {
            return false;
        }
        beams.sunk[node] = v;
        toldKey = NOTHING_TOLD;
        return true;
    }

    public long move(int node, long above, long below, int part) {
        frame.prepare();
        boolean fits = isNode(node) && above >= -MOST && above <= MOST && below >= 1 && below <= MOST;
        if (!fits || part < -1 || isLoose()) {
            return refusal(part);
        }
        long key = FIRST_MOVE + (node * (2 * MOST + 1) + above + MOST) * (MOST + 1) + below;
        if (key != toldKey) {
            measureSettled(node, above, below);
            ratio.reduce();
            toldKey = key;
        }
        return ratio.part(part);
    }

    public int count(int what) {
        switch (what) {
            case 0:
                return beams.many;
            case 1:
                return rows;
            case 2:
                return beams.hinges();
            case 3:
                return beams.heldNodes();
            case 4:
                return (int) beams.wholeLength();
            default:
                return BAD;
        }
    }

    private void changed() {
        frame.forget();
        toldKey = NOTHING_TOLD;
    }

    private void checkBeam(int k) {
        if (k < 0 || k >= beams.many) {
            throw new ArrayIndexOutOfBoundsException("no such beam");
        }
    }

    private void checkNode(int node) {
        if (!isNode(node)) {
            throw new ArrayIndexOutOfBoundsException("no such node");
        }
    }

    private boolean isNode(int node) {
        return node >= 0 && node <= beams.many;
    }

    private boolean isHeld(int node) {
        return isNode(node) && beams.high[node];
    }

    private boolean isPlace(int beam, int place) {
        return beam >= 0 && beam < beams.many && place >= 0 && place <= LAST_PLACE;
    }

    private boolean isRow(int row) {
        return row >= 0 && row < rows;
    }

    /** Good only while the frame is prepared. */
    private boolean isLoose() {
        return frame.looseNodes() > 0;
    }

    private boolean canBeTold(int what, int member, int place) {
        if (what == REACTION) {
            return isHeld(member) && place == 0;
        }
        return what >= MOMENT && what <= MOVE && isPlace(member, place);
    }

    private boolean isAnswered(int row, int part) {
        if (part < -1 || !isRow(row) || isLoose()) {
            return false;
        }
        return rowWhat[row] != REACTION || isHeld(rowBeam[row]);
    }

    private static long refusal(int part) {
        return part == -1 ? NONE : BAD;
    }

    /** Both sides are brought over one divisor: only the stiffnesses differ in it. */
    private boolean isExchanged(int row, int beam, int place) {
        probe.aim(MOVE, rowBeam[row], rowPlace[row]);
        probe.put(beam, place);
        probe.measure(register);
        mirror.aim(MOVE, beam, place);
        mirror.put(rowBeam[row], rowPlace[row]);
        mirror.measure(ratio.upper);
        toldKey = NOTHING_TOLD;
        ratio.lower.takeLong(0);
        ratio.lower.addTimes(register, beams.stiff[beam]);
        register.takeLong(0);
        register.addTimes(ratio.upper, beams.stiff[rowBeam[row]]);
        return register.isSame(ratio.lower);
    }

    private void measureSettled(int node, long above, long below) {
        ratio.upper.takeLong(0);
        ratio.lower.takeLong(0);
        if (beams.high[node]) {
            ratio.upper.takeLong(above * beams.sunk[node]);
            ratio.lower.takeLong(below);
            return;
        }
        for (int held = 0; held <= beams.many; held++) {
            if (beams.high[held] && beams.sunk[held] != 0) {
                probe.followSettled(node, held, register);
                ratio.upper.addTimes(register, above * beams.sunk[held]);
            }
        }
        ratio.lower.addTimes(frame.divisor(), below);
    }

    /** The row of beams as it is told: what holds it, how long and stiff it is. */
    private static final class Beams {
        static final int MOST = 3;
        static final long GREATEST = 12;

        final long[] span = new long[MOST];
        final long[] stiff = new long[MOST];
        final boolean[] pin = new boolean[2 * MOST];
        final boolean[] high = new boolean[MOST + 1];
        final boolean[] stayed = new boolean[MOST + 1];
        final long[] sunk = new long[MOST + 1];
        int many;

        /** As the text "F1x1." tells it. */
        Beams() {
            Arrays.fill(span, 1);
            Arrays.fill(stiff, 1);
            high[0] = true;
            stayed[0] = true;
            many = 1;
        }

        static boolean isNumber(long value) {
            return value >= 1 && value <= GREATEST;
        }

        void clear() {
            many = 0;
            Arrays.fill(span, 1);
            Arrays.fill(stiff, 1);
            Arrays.fill(sunk, 0);
            for (int i = 0; i < pin.length; i++) {
                pin[i] = false;
            }
            for (int i = 0; i < high.length; i++) {
                high[i] = false;
                stayed[i] = false;
            }
        }

        void take(Beams other) {
            many = other.many;
            for (int k = 0; k < MOST; k++) {
                span[k] = other.span[k];
                stiff[k] = other.stiff[k];
            }
            for (int end = 0; end < 2 * MOST; end++) {
                pin[end] = other.pin[end];
            }
            for (int node = 0; node <= MOST; node++) {
                high[node] = other.high[node];
                stayed[node] = other.stayed[node];
                sunk[node] = other.sunk[node];
            }
        }

        int hinges() {
            int found = 0;
            for (int end = 0; end < 2 * many; end++) {
                found += pin[end] ? 1 : 0;
            }
            return found;
        }

        int heldNodes() {
            int found = 0;
            for (int node = 0; node <= many; node++) {
                found += high[node] ? 1 : 0;
            }
            return found;
        }

        long wholeLength() {
            long whole = 0;
            for (int k = 0; k < many; k++) {
                whole += span[k];
            }
            return whole;
        }
    }

    /** The signs that are collected, and how they tell a row of beams. */
    private static final class Sheet {
        static final int ROOM = 50;
        static final int END = -1;

        private final int[] sign = new int[ROOM];
        private int size;
        private int here;

        boolean collect(int u) {
            if (u < 32 || u > 126 || size >= ROOM) {
                return false;
            }
            sign[size] = u;
            size++;
            return true;
        }

        void empty() {
            size = 0;
        }

        /** How many beams, or - 1 less the number of the first wrong sign. */
        int tell(Beams target) {
            here = 0;
            target.clear();
            boolean right = takeNode(target, 0);
            while (right && target.many < Beams.MOST && (target.many == 0 || here < size)) {
                right = takeBeam(target, target.many) && takeNode(target, target.many + 1);
                target.many++;
            }
            return right && here == size ? target.many : -1 - here;
        }

        private int seen() {
            return here >= 0 && here < size ? sign[here] : END;
        }

        private boolean takeSign(int wanted) {
            if (seen() != wanted) {
                return false;
            }
            here++;
            return true;
        }

        private boolean takeNode(Beams target, int node) {
            int kind = seen();
            if (kind != '.' && kind != 'S' && kind != 'T' && kind != 'F') {
                return false;
            }
            target.high[node] = kind == 'S' || kind == 'F';
            target.stayed[node] = kind == 'T' || kind == 'F';
            here++;
            return true;
        }

        private boolean takeBeam(Beams target, int beam) {
            target.pin[2 * beam] = takeSign('h');
            target.span[beam] = takeNumber();
            if (target.span[beam] == 0 || !takeSign('x')) {
                return false;
            }
            target.stiff[beam] = takeNumber();
            if (target.stiff[beam] == 0) {
                return false;
            }
            target.pin[2 * beam + 1] = takeSign('h');
            return true;
        }

        /** 0 if there is none; of one that is too great its first digit is then the wrong sign. */
        private int takeNumber() {
            int first = here;
            if (seen() < '1' || seen() > '9') {
                return 0;
            }
            int value = seen() - '0';
            here++;
            if (seen() >= '0' && seen() <= '9') {
                value = value * 10 + seen() - '0';
                here++;
            }
            if (value > Beams.GREATEST) {
                here = first;
                return 0;
            }
            return value;
        }
    }

    /**
     * The system that moves and turns of the row solve. Slots 0 .. 3 are the nodes' moves, 4 .. 9
     * the turns of the beams' ends, times the least common multiple of the lengths (scale): with
     * that, and all of it times scale's cube, the stiffnesses are whole and symmetric.
     */
    private static final class Frame {
        static final int SLOTS = 10;
        private static final int NODES = 4;
        private static final int[] FACTOR = {12, 6, -12, 6, 6, 4, -6, 2, -12, -6, 12, -6, 6, 2, -6, 4};

        private final Beams beams;
        private final int[] corner = new int[4];
        private final int[] endSlot = new int[2 * Beams.MOST];
        private final boolean[] free = new boolean[SLOTS];
        private final boolean[] swept = new boolean[SLOTS];
        private final boolean[] slackNode = new boolean[NODES];
        private final long[] pull = new long[SLOTS * SLOTS];
        private final Big[] cell = new Big[SLOTS * (SLOTS + 1) / 2];
        private final Big last = new Big();
        private final Big pivot = new Big();
        private final Big fresh = new Big();
        private final Big cross = new Big();
        private long scale;
        private boolean known;

        Frame(Beams beams) {
            this.beams = beams;
            for (int i = 0; i < cell.length; i++) {
                cell[i] = new Big();
            }
        }

        void forget() {
            known = false;
        }

        void prepare() {
            if (!known) {
                findScale();
                layOut();
                assemble();
                fillCells();
                for (int slot = 0; slot < SLOTS; slot++) {
                    sweep(slot);
                }
                findLoose();
                known = true;
            }
        }

        long scale() {
            return scale;
        }

        long pullOf(int slot, int other) {
            return pull[slot * SLOTS + other];
        }

        int slotOfEnd(int end) {
            return endSlot[end];
        }

        /** The inverse of the system is the swept cells, their sign turned, over this. */
        Big divisor() {
            return last;
        }

        int looseNodes() {
            int found = 0;
            for (int node = 0; node < NODES; node++) {
                found += slackNode[node] ? 1 : 0;
            }
            return found;
        }

        int looseNode(int k) {
            int left = k;
            for (int node = 0; node < NODES; node++) {
                if (slackNode[node]) {
                    if (left == 0) {
                        return node;
                    }
                    left--;
                }
            }
            return BAD;
        }

        /** Left times the inverse times right; it stands over the divisor. */
        void pair(long[] left, long[] right, Big answer) {
            answer.takeLong(0);
            for (int i = 0; i < SLOTS; i++) {
                if (free[i] && left[i] != 0) {
                    fresh.takeLong(0);
                    for (int j = 0; j < SLOTS; j++) {
                        if (free[j]) {
                            fresh.addTimes(cellOf(i, j), -right[j]);
                        }
                    }
                    answer.addTimes(fresh, left[i]);
                }
            }
        }

        private Big cellOf(int i, int j) {
            return i >= j ? cell[i * (i + 1) / 2 + j] : cell[j * (j + 1) / 2 + i];
        }

        private void findScale() {
            scale = 1;
            for (int k = 0; k < beams.many; k++) {
                long common = Divisor.ofLongs(scale, beams.span[k]);
                if (common > 0) {
                    scale = scale / common * beams.span[k];
                }
            }
        }

        /** Ends without a hinge at one node share the node's turn, so they share a slot. */
        private void layOut() {
            for (int slot = 0; slot < SLOTS; slot++) {
                free[slot] = slot <= beams.many && slot < NODES && !beams.high[slot];
            }
            for (int end = 0; end < 2 * beams.many; end++) {
                boolean left = end % 2 == 0;
                boolean shared = left && end > 0 && !beams.pin[end] && !beams.pin[end - 1];
                endSlot[end] = shared ? NODES + end - 1 : NODES + end;
                int node = left ? end / 2 : end / 2 + 1;
                free[endSlot[end]] = beams.pin[end] || !beams.stayed[node];
            }
        }

        private void assemble() {
            Arrays.fill(pull, 0);
            for (int k = 0; k < beams.many; k++) {
                corner[0] = k;
                corner[1] = endSlot[2 * k];
                corner[2] = k + 1;
                corner[3] = endSlot[2 * k + 1];
                long ratio = beams.span[k] > 0 ? scale / beams.span[k] : 1;
                for (int i = 0; i < 4; i++) {
                    for (int j = 0; j < 4; j++) {
                        long power = ratio;
                        power *= i % 2 == 0 ? ratio : 1;
                        power *= j % 2 == 0 ? ratio : 1;
                        pull[corner[i] * SLOTS + corner[j]] += FACTOR[4 * i + j] * beams.stiff[k] * power;
                    }
                }
            }
        }

        private void fillCells() {
            for (int i = 0; i < SLOTS; i++) {
                swept[i] = false;
                for (int j = 0; j <= i; j++) {
                    cellOf(i, j).takeLong(pullOf(i, j));
                }
            }
            last.takeLong(1);
        }

        /**
         * Exchanges a slot's move for its load. All cells stay whole: each is a minor of the system,
         * so the division leaves nothing. A slot whose pivot is 0 stays unswept: the row can move
         * there without any load.
         */
        private void sweep(int k) {
            Big middle = cellOf(k, k);
            if (!free[k] || middle.sign == 0) {
                return;
            }
            pivot.take(middle);
            for (int i = 0; i < SLOTS; i++) {
                for (int j = 0; j <= i; j++) {
                    if (free[i] && free[j] && i != k && j != k) {
                        sweepCell(cellOf(i, j), cellOf(i, k), cellOf(j, k));
                    }
                }
            }
            middle.takeLong(0);
            middle.addTimes(last, -1);
            last.take(pivot);
            swept[k] = true;
        }

        private void sweepCell(Big target, Big side, Big other) {
            fresh.product(target, pivot);
            cross.product(side, other);
            fresh.addTimes(cross, -1);
            fresh.split(last, target);
        }

        private boolean isSlack(int slot) {
            if (!free[slot] || !swept[slot]) {
                return free[slot];
            }
            for (int other = 0; other < SLOTS; other++) {
                if (free[other] && !swept[other] && cellOf(slot, other).sign != 0) {
                    return true;
                }
            }
            return false;
        }

        private boolean isSlackEnd(int end) {
            return end >= 0 && end < 2 * beams.many && !beams.pin[end] && isSlack(endSlot[end]);
        }

        private void findLoose() {
            for (int node = 0; node < NODES; node++) {
                slackNode[node] = isSlack(node) || isSlackEnd(2 * node - 1) || isSlackEnd(2 * node);
            }
        }
    }

    /**
     * One value of a row: what is asked at one place (the left side) of a load at another (the
     * right side). The value is (gain * left * inverse * right + own part) / (whole * divisor).
     */
    private static final class Probe {
        private final Beams beams;
        private final Frame frame;
        private final long[] left = new long[Frame.SLOTS];
        private final long[] right = new long[Frame.SLOTS];
        private final boolean[] asked = new boolean[Beams.MOST + 1];
        private final Big paired = new Big();
        private int what;
        private int beam;
        private int place;
        private int loadBeam;
        private int loadPlace;
        private long gain;
        private long whole;

        Probe(Beams beams, Frame frame) {
            this.beams = beams;
            this.frame = frame;
        }

        void aim(int newWhat, int newBeam, int newPlace) {
            what = newWhat;
            beam = newBeam;
            place = newPlace;
            Arrays.fill(left, 0);
            switch (what) {
                case MOMENT:
                    aimAtMoment();
                    break;
                case MOVE:
                    aimAtMove();
                    break;
                case REACTION:
                    aimAtReactions();
                    addReaction(beam);
                    break;
                default:
                    aimAtShear();
                    break;
            }
        }

        void aimAtAllReactions() {
            what = REACTION;
            beam = 0;
            place = 0;
            Arrays.fill(left, 0);
            aimAtReactions();
            for (int node = 0; node <= beams.many; node++) {
                if (beams.high[node]) {
                    addReaction(node);
                }
            }
        }

        void put(int newBeam, int newPlace) {
            loadBeam = newBeam;
            loadPlace = newPlace;
            Arrays.fill(right, 0);
            layShape(right, loadBeam, loadPlace);
        }

        /** The value's upper part; its lower part is told by under. */
        void measure(Big upper) {
            frame.pair(left, right, paired);
            upper.takeLong(0);
            upper.addTimes(paired, gain);
            upper.addTimes(frame.divisor(), ownPart());
        }

        void under(Big lower) {
            lower.takeLong(0);
            lower.addTimes(frame.divisor(), whole);
        }

        /** How far a node goes down, times the divisor, if a held one is down by one. */
        void followSettled(int node, int held, Big upper) {
            Arrays.fill(left, 0);
            left[node] = 1;
            for (int slot = 0; slot < Frame.SLOTS; slot++) {
                right[slot] = -frame.pullOf(slot, held);
            }
            frame.pair(left, right, upper);
        }

        /** The shape that a beam takes from its ends, at a place, times 64 and the scale. */
        private void layShape(long[] target, int k, int q) {
            long rest = LAST_PLACE - q;
            long scale = frame.scale();
            long span = beams.span[k];
            target[k] += scale * rest * rest * (4 + 2 * q);
            target[frame.slotOfEnd(2 * k)] += span * q * rest * rest;
            target[k + 1] += scale * q * q * (12 - 2 * q);
            target[frame.slotOfEnd(2 * k + 1)] -= span * q * q * rest;
        }

        private void layEnds(long down, long leftTurn, long rightTurn) {
            left[beam] += down;
            left[frame.slotOfEnd(2 * beam)] += leftTurn;
            left[beam + 1] -= down;
            left[frame.slotOfEnd(2 * beam + 1)] += rightTurn;
        }

        private long ratio() {
            long span = beams.span[beam];
            return span > 0 ? frame.scale() / span : 1;
        }

        private void aimAtMoment() {
            layEnds((12 - 6 * place) * ratio(), 8 - 3 * place, 4 - 3 * place);
            gain = 2 * beams.stiff[beam] * ratio();
            whole = 256;
        }

        private void aimAtShear() {
            layEnds(2 * ratio(), 1, 1);
            gain = -6 * beams.stiff[beam] * ratio() * ratio();
            whole = 64 * frame.scale();
        }

        /** Two shapes are each over 64, and a load's own bending is over 6 times the stiffness. */
        private void aimAtMove() {
            layShape(left, beam, place);
            gain = 6 * beams.stiff[beam] * frame.scale();
            whole = 6 * 64 * 64 * beams.stiff[beam];
        }

        private void aimAtReactions() {
            gain = -1;
            whole = 64 * frame.scale();
            for (int node = 0; node < asked.length; node++) {
                asked[node] = false;
            }
        }

        private void addReaction(int node) {
            asked[node] = true;
            for (int slot = 0; slot < Frame.SLOTS; slot++) {
                left[slot] += frame.pullOf(node, slot);
            }
        }

        /** What the load does while all moves and turns are 0. */
        private long ownPart() {
            if (what == REACTION) {
                return ownReaction();
            }
            if (loadBeam != beam) {
                return 0;
            }
            long rest = LAST_PLACE - loadPlace;
            long carried = rest * rest * (4 + 2 * loadPlace);
            long bent = loadPlace * rest * rest;
            long past = Math.max(0, place - loadPlace);
            long span = beams.span[beam];
            if (what == MOMENT) {
                return span * (carried * place - 4 * bent - 64 * past);
            }
            if (what == MOVE) {
                long square = place * place;
                return span * span * span * (12 * bent * square - carried * square * place + 64 * past * past * past);
            }
            boolean atNode = loadPlace == 0 || loadPlace == LAST_PLACE;
            return atNode ? 0 : frame.scale() * (past > 0 ? carried - 64 : carried);
        }

        private long ownReaction() {
            long own = 0;
            for (int node = 0; node < asked.length; node++) {
                own += asked[node] ? right[node] : 0;
            }
            return own;
        }
    }

    /** The area on one side of 0 under straight lines: whole ones, and those that cross 0. */
    private static final class Areas {
        private final Divisor divisor = new Divisor();
        private final Big before = new Big();
        private final Big now = new Big();
        private final Big whole = new Big();
        private final Big crossUpper = new Big();
        private final Big crossLower = new Big();
        private final Big peak = new Big();
        private final Big drop = new Big();
        private final Big first = new Big();
        private final Big second = new Big();

        /** The probe is aimed at the row; what is told is not in least terms yet. */
        void measure(Probe probe, Beams beams, int side, Ratio target) {
            whole.takeLong(0);
            crossUpper.takeLong(0);
            crossLower.takeLong(1);
            for (int k = 0; k < beams.many; k++) {
                for (int place = 0; place <= LAST_PLACE; place++) {
                    before.take(now);
                    probe.put(k, place);
                    probe.measure(now);
                    now.sign *= side;
                    if (place > 0) {
                        join(beams.span[k]);
                    }
                }
            }
            target.upper.product(whole, crossLower);
            target.upper.addTimes(crossUpper, 1);
            probe.under(first);
            second.product(first, crossLower);
            target.lower.takeLong(0);
            target.lower.addTimes(second, 8);
        }

        /**
         * What lies above 0 between two values. Where the line crosses 0 that is
         * span * above * above / (above - below), made small by a common divisor first.
         */
        private void join(long span) {
            if (before.sign >= 0 && now.sign >= 0) {
                whole.addTimes(before, span);
                whole.addTimes(now, span);
                return;
            }
            if (before.sign * now.sign >= 0) {
                return;
            }
            Big above = before.sign > 0 ? before : now;
            Big below = before.sign > 0 ? now : before;
            Big common = divisor.of(above, below);
            first.take(above);
            first.split(common, peak);
            first.take(above);
            first.addTimes(below, -1);
            first.split(common, drop);
            first.product(peak, peak);
            second.product(first, common);
            first.product(second, crossLower);
            second.product(crossUpper, drop);
            second.addTimes(first, span);
            crossUpper.take(second);
            first.product(crossLower, drop);
            crossLower.take(first);
        }
    }

    /** A fraction, told by parts. */
    private static final class Ratio {
        final Big upper = new Big();
        final Big lower = new Big();
        private final Divisor divisor = new Divisor();
        private final Big spare = new Big();

        void reduce() {
            Big common = divisor.of(upper, lower);
            spare.take(upper);
            spare.split(common, upper);
            spare.take(lower);
            spare.split(common, lower);
        }

        long part(int number) {
            if (number < 0) {
                return upper.sign;
            }
            Big side = number % 2 == 0 ? upper : lower;
            int group = number / 2;
            return side.limbAt(2 * group + 1) * Big.BASE + side.limbAt(2 * group);
        }
    }

    /** The greatest common divisor of two numbers, not below 0. */
    private static final class Divisor {
        private static final int MANY_STEPS = 1_000_000;

        private final Big times = new Big();
        private Big first = new Big();
        private Big second = new Big();

        static long ofLongs(long a, long b) {
            long first = a;
            long second = b;
            for (int i = 0; i < MANY_STEPS && second != 0; i++) {
                long rest = first % second;
                first = second;
                second = rest;
            }
            return first;
        }

        /** The answer is lent: it is good until the next call. */
        Big of(Big a, Big b) {
            first.take(a);
            second.take(b);
            for (int i = 0; i < MANY_STEPS && second.sign != 0 && !areShort(); i++) {
                first.split(second, times);
                Big spare = first;
                first = second;
                second = spare;
            }
            if (areShort()) {
                first.takeLong(ofLongs(first.lowest(), second.lowest()));
            }
            first.sign = first.size > 0 ? 1 : 0;
            return first;
        }

        private boolean areShort() {
            return first.size <= 2 && second.size <= 2;
        }
    }

    /** A whole number: its sign, and nine digits in each limb, the lowest first. */
    private static final class Big {
        static final long BASE = 1_000_000_000L;
        private static final int FIRST_ROOM = 16;
        private static final int MOST_GUESSES = 8;

        private int sign;
        private int size;
        private int[] limb = new int[FIRST_ROOM];

        long limbAt(int index) {
            return index >= 0 && index < size ? limb[index] : 0;
        }

        /** The lowest eighteen digits, without sign. */
        long lowest() {
            return limbAt(1) * BASE + limbAt(0);
        }

        boolean isSame(Big other) {
            boolean same = sign == other.sign && size == other.size;
            for (int i = 0; i < size && same; i++) {
                same = limb[i] == other.limbAt(i);
            }
            return same;
        }

        void take(Big other) {
            size = 0;
            makeRoom(other.size);
            System.arraycopy(other.limb, 0, limb, 0, other.size);
            size = other.size;
            sign = other.sign;
        }

        void takeLong(long value) {
            sign = Long.signum(value);
            long rest = value < 0 ? -value : value;
            size = 0;
            for (int i = 0; i < 3 && rest > 0; i++) {
                limb[i] = (int) (rest % BASE);
                rest /= BASE;
                size = i + 1;
            }
        }

        /** Adds other * factor; a factor has to be within four milliards, so that no limb runs over. */
        void addTimes(Big other, long factor) {
            int way = factor < 0 ? -other.sign : other.sign;
            if (way == 0 || factor == 0) {
                return;
            }
            if (sign == 0) {
                sign = way;
            }
            long step = factor < 0 ? -factor : factor;
            step = sign == way ? step : -step;
            int wide = Math.max(size, other.size) + 2;
            makeRoom(wide);
            long carry = 0;
            for (int i = 0; i < wide; i++) {
                long value = limb[i] + other.limbAt(i) * step + carry;
                carry = Math.floorDiv(value, BASE);
                limb[i] = (int) (value - carry * BASE);
            }
            if (carry < 0) {
                turnOver(wide);
            }
            trim(wide);
        }

        /** Becomes a * b; it must be neither of them. */
        void product(Big a, Big b) {
            size = 0;
            int wide = a.size + b.size;
            makeRoom(wide);
            for (int i = 0; i < a.size; i++) {
                long carry = 0;
                long factor = a.limb[i];
                for (int j = 0; j < b.size; j++) {
                    long value = limb[i + j] + factor * b.limb[j] + carry;
                    carry = value / BASE;
                    limb[i + j] = (int) (value - carry * BASE);
                }
                limb[i + b.size] = (int) carry;
            }
            sign = a.sign * b.sign;
            trim(wide);
        }

        /** Leaves what is over when it is divided, and puts into times how often by goes into it. */
        void split(Big by, Big times) {
            int most = size - by.size;
            times.size = 0;
            times.sign = sign * by.sign;
            if (by.sign == 0 || most < 0) {
                times.sign = 0;
                return;
            }
            times.makeRoom(most + 1);
            makeRoom(size + 1);
            long tens = by.tensOfTop();
            long head = by.front(by.size - 1, 0, tens);
            for (int shift = most; shift >= 0; shift--) {
                long often = 0;
                for (int i = 0; i < MOST_GUESSES; i++) {
                    long more = guess(by, shift, head, tens);
                    if (more == 0) {
                        break;
                    }
                    takeAway(by, more, shift);
                    often += more;
                }
                times.limb[shift] = (int) often;
            }
            trim(size);
            times.trim(most + 1);
        }

        /** How far the top limb is to be lifted, so that it has all of its nine digits. */
        private long tensOfTop() {
            long top = limbAt(size - 1);
            long tens = 1;
            for (int i = 0; i < 8 && top * tens * 10 < BASE; i++) {
                tens *= 10;
            }
            return tens;
        }

        /** The digits of above and of the limb at index, and as many more as tens has noughts. */
        private long front(int index, long above, long tens) {
            long digits = (above * BASE + limb[index]) * tens;
            return index > 0 && tens > 1 ? digits + limb[index - 1] / (BASE / tens) : digits;
        }

        /** Never too much; 0 only when nothing is left to take away. */
        private long guess(Big by, int shift, long head, long tens) {
            int top = shift + by.size;
            long seen = front(top - 1, limb[top], tens);
            if (head < 0 || seen < head) {
                return 0;
            }
            long often = seen / (head + 1);
            return often == 0 && reaches(by, shift) ? 1 : often;
        }

        private boolean reaches(Big by, int shift) {
            for (int i = by.size - 1; i >= 0; i--) {
                int gap = limb[shift + i] - by.limb[i];
                if (gap != 0) {
                    return gap > 0;
                }
            }
            return true;
        }

        private void takeAway(Big by, long often, int shift) {
            long carry = 0;
            for (int i = 0; i <= by.size; i++) {
                long value = limb[shift + i] - by.limbAt(i) * often + carry;
                carry = Math.floorDiv(value, BASE);
                limb[shift + i] = (int) (value - carry * BASE);
            }
        }

        /** The limbs went below 0: what they lack to the next power is the number. */
        private void turnOver(int wide) {
            long carry = 1;
            for (int i = 0; i < wide; i++) {
                long value = BASE - 1 - limb[i] + carry;
                carry = value >= BASE ? 1 : 0;
                limb[i] = (int) (carry > 0 ? 0 : value);
            }
            sign = -sign;
        }

        private void makeRoom(int wide) {
            if (wide > limb.length) {
                limb = Arrays.copyOf(limb, 2 * wide);
            }
            if (wide > size) {
                Arrays.fill(limb, size, wide, 0);
            }
        }

        private void trim(int wide) {
            size = wide;
            while (size > 0 && limb[size - 1] == 0) {
                size--;
            }
            if (size == 0) {
                sign = 0;
            }
        }
    }
}
