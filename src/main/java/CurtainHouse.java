import java.util.Arrays;

/** A curtain house: orders, panels and pleats, drops cut from bolts, and two benches. */
public final class CurtainHouse {
    public static final int NONE = -1;

    private static final int MAX_CLOTHS = 6;
    private static final int MAX_BOLTS = 12;
    private static final int MAX_FLAWS = 4;
    private static final int MAX_WINDOWS = 12;
    private static final int MAX_SIDES = 8;
    private static final int MAX_PANELS = 8;
    private static final int MAX_ITEMS = 10;
    private static final int MAX_SETS = 1 << MAX_ITEMS;
    private static final int MAX_BYTES = 600;
    private static final int MAX_LETTERS = 8;
    private static final int LAYERS = 2;

    private static final int TOO_MANY_ITEMS = -2;
    /** Stands for an end that no bolt can reach. */
    private static final int NOWHERE = 1 << 30;
    /** Stands for a number of bolts that no plan can have. */
    private static final int NEVER = 100;

    /** Kinds of tokens: the words are numbered as they stand in WORDS. */
    private static final int WINDOW = 0;
    private static final int WIDE = 1;
    private static final int DROP = 2;
    private static final int FACE = 3;
    private static final int LINING = 4;
    private static final int FULL = 5;
    private static final int HEMS = 6;
    private static final int SPLIT = 7;
    private static final int NAME = 8;
    private static final int NUMBER = 9;
    private static final int COLON = 10;
    private static final int SEMICOLON = 11;
    private static final int END_OF_TEXT = 12;
    private static final int STRANGE = 13;

    /** The words' bytes, the first one highest: window wide drop face lining full hems split. */
    private static final long[] WORDS = {
        0x77696e646f77L, 0x77696465L, 0x64726f70L, 0x66616365L,
        0x6c696e696e67L, 0x66756c6cL, 0x68656d73L, 0x73706c6974L,
    };

    /** By word: the numbers that may stand behind it (but for cloths: there the stock tells). */
    private static final int[] LEAST = {0, 100, 200, 0, 0, 100, 0, 0};
    private static final int[] MOST = {0, 5000, 5000, 0, 0, 400, 1000, 0};

    private static final int MISPLACED = 1;
    private static final int REPEATED = 2;
    private static final int OUT_OF_RANGE = 3;
    private static final int TOO_MANY = 4;
    private static final int INCOMPLETE = 5;

    private final Stock stock;
    private final Tape tape;
    private final Reader reader;
    private final Benches benchwork;
    private Order current;
    /** The order that the next text is read into, so that a fault leaves the current one as it is. */
    private Order spare;
    /** Made when it is first asked for: its tables are by far the largest part of an object. */
    private Planner planner;
    private int lostDrops;

    public CurtainHouse() {
        stock = new Stock();
        tape = new Tape();
        reader = new Reader();
        benchwork = new Benches();
        current = new Order();
        spare = new Order();
        planner = null;
        lostDrops = 0;
    }

    public int cloth(int width, int repeat, boolean half, int shrink) {
        boolean sized = width >= 300 && width <= 2000 && repeat >= 0 && repeat <= 800;
        boolean halved = !half || (repeat > 0 && repeat % 2 == 0);
        if (!sized || !halved || shrink < 0 || shrink > 200) {
            return NONE;
        }
        return stock.addCloth(width, repeat, half, shrink);
    }

    public int bolt(int cloth, int length) {
        Cloth of = stock.clothAt(cloth);
        if (of == null || length < 100 || length > 60000) {
            return NONE;
        }
        return stock.addBolt(of, length);
    }

    public int flaw(int bolt, int place) {
        Bolt of = stock.boltAt(bolt);
        return of == null ? NONE : of.addFlaw(place);
    }

    public int boltOf(int bolt, int what) {
        Bolt of = stock.boltAt(bolt);
        if (of == null) {
            return NONE;
        }
        switch (what) {
            case 0: return of.cloth.number;
            case 1: return of.length;
            case 2: return of.used;
            case 3: return of.flawCount;
            default: return what < 10 ? NONE : of.flawAt(what - 10);
        }
    }

    public int feed(int a, int b, int c, int d, int e) {
        if (tape.length > MAX_BYTES - 20) {
            return NONE;
        }
        tape.add(a);
        tape.add(b);
        tape.add(c);
        tape.add(d);
        tape.add(e);
        return tape.length;
    }

    public int end(int n) {
        if (n < 0 || n > tape.length) {
            return NONE;
        }
        tape.length = n;
        return n;
    }

    public int order() {
        boolean good = reader.read(tape, stock, spare);
        tape.length = 0;
        if (!good) {
            return NONE;
        }
        spare.takeOver(current);
        lostDrops += current.cutDrops() - spare.cutDrops();
        Order old = current;
        current = spare;
        spare = old;
        return current.count;
    }

    public int fault(int what) {
        switch (what) {
            case 0: return reader.faultKind;
            case 1: return reader.faultPlace;
            default: return NONE;
        }
    }

    public int window(int w, int what) {
        Window of = current.windowAt(w);
        if (of == null) {
            return NONE;
        }
        switch (what) {
            case 0: return of.wide;
            case 1: return of.height;
            case 2: return of.face.clothNumber();
            case 3: return of.lining.clothNumber();
            case 4: return of.full;
            case 5: return of.hems;
            case 6: return of.split ? 1 : 0;
            case 7: return of.pleats();
            case 8: return of.more();
            case 9: return of.firstMinutes();
            case 10: return of.secondMinutes();
            default: return NONE;
        }
    }

    public int layer(int w, int layer, int what) {
        Layer of = layerOf(w, layer);
        if (of == null) {
            return NONE;
        }
        switch (what) {
            case 0: return of.panels;
            case 1: return of.size;
            case 2: return of.lackingDrops();
            default: return NONE;
        }
    }

    public int pleat(int w, int i, boolean gap) {
        Window of = current.windowAt(w);
        if (of == null) {
            return NONE;
        }
        return gap ? share(of.wide, of.pleats() + 1, i) : share(of.more(), of.pleats(), i);
    }

    public int drop(int w, int layer, int panel, int what) {
        Layer of = layerOf(w, layer);
        if (of == null || panel < 0 || panel >= of.panels || of.isLacking(panel)) {
            return NONE;
        }
        switch (what) {
            case 0: return of.bolts[panel];
            case 1: return of.places[panel];
            case 2: return of.sizes[panel];
            default: return NONE;
        }
    }

    public int lost() {
        return lostDrops;
    }

    public int plan(int cloth) {
        return findPlan(cloth);
    }

    public int bound(int cloth) {
        Cloth of = stock.clothAt(cloth);
        return of == null ? NONE : stock.fewestBolts(of, current.lackingLength(of));
    }

    public int cut(int cloth) {
        int found = findPlan(cloth);
        if (found <= 0 || planner == null) {
            return found;
        }
        int drops = 0;
        for (int rank = 0; rank < planner.shelfCount; rank++) {
            drops += planner.layOut(rank);
        }
        return drops;
    }

    public int lacks(int cloth) {
        Cloth of = stock.clothAt(cloth);
        return of == null ? NONE : current.lackingLength(of);
    }

    public int benches() {
        benchwork.arrange(current);
        return benchwork.count == 0 ? 0 : benchwork.done[benchwork.count - 1];
    }

    public int bench(int i, int what) {
        benchwork.arrange(current);
        if (i < 0 || i >= benchwork.count) {
            return NONE;
        }
        switch (what) {
            case 0: return benchwork.queue[i];
            case 1: return benchwork.done[i];
            default: return NONE;
        }
    }

    public int about(int what) {
        switch (what) {
            case 0: return stock.clothCount;
            case 1: return stock.boltCount;
            case 2: return current.count;
            case 3: return tape.length;
            default: return NONE;
        }
    }

    private Layer layerOf(int w, int layer) {
        Window of = current.windowAt(w);
        return of == null ? null : of.layerAt(layer);
    }

    private int findPlan(int cloth) {
        Cloth of = stock.clothAt(cloth);
        if (of == null) {
            return NONE;
        }
        if (planner == null) {
            planner = new Planner();
        }
        return planner.find(current, stock, of);
    }

    /** Part i of an amount that is shared out so that all parts together make it up. */
    private static int share(int amount, int parts, int i) {
        if (i < 0 || i >= parts || parts <= 0) {
            return NONE;
        }
        return amount * (i + 1) / parts - amount * i / parts;
    }

    /** A cloth. */
    private static final class Cloth {
        final int number;
        final int width;
        final int repeat;
        final boolean half;
        final int shrink;

        Cloth(int number, int width, int repeat, boolean half, int shrink) {
            this.number = number;
            this.width = width;
            this.repeat = repeat;
            this.half = half;
            this.shrink = shrink;
        }

        int use() {
            return width - 20;
        }

        int phaseOf(int panel) {
            return half && panel % 2 != 0 ? repeat / 2 : 0;
        }

        /** The first place from one on at which the pattern is as the phase wants it. */
        int nextPlace(int from, int phase) {
            return repeat <= 0 ? from : from + Math.floorMod(phase - from, repeat);
        }
    }

    /** A bolt of a cloth. */
    private static final class Bolt {
        final int number;
        final Cloth cloth;
        final int length;
        final int[] flaws;
        int flawCount;
        int used;

        Bolt(int number, Cloth cloth, int length) {
            this.number = number;
            this.cloth = cloth;
            this.length = length;
            this.flaws = new int[MAX_FLAWS];
            this.flawCount = 0;
            this.used = 0;
        }

        int addFlaw(int place) {
            boolean onBolt = place >= used && place < length;
            if (!onBolt || flawCount >= MAX_FLAWS || lastFlawWithin(place, place + 1) != NONE) {
                return NONE;
            }
            flaws[flawCount] = place;
            flawCount++;
            return flawCount;
        }

        int flawAt(int i) {
            return i < 0 || i >= flawCount ? NONE : flaws[i];
        }

        int lastFlawWithin(int from, int to) {
            int last = NONE;
            for (int i = 0; i < flawCount; i++) {
                if (flaws[i] >= from && flaws[i] < to && flaws[i] > last) {
                    last = flaws[i];
                }
            }
            return last;
        }

        /** The first place from one on at which a drop of that phase and size lies, or NOWHERE. */
        int placeFor(int from, int phase, int size) {
            int place = cloth.nextPlace(from, phase);
            // Each round but the last leaves a flaw behind, so there is one round more than flaws.
            for (int round = 0; round <= flawCount; round++) {
                if (place + size > length) {
                    return NOWHERE;
                }
                int flaw = lastFlawWithin(place, place + size);
                if (flaw == NONE) {
                    return place;
                }
                place = cloth.nextPlace(flaw + 1, phase);
            }
            return NOWHERE;
        }
    }

    /** The cloths and bolts of the house. */
    private static final class Stock {
        final Cloth[] cloths;
        final Bolt[] bolts;
        final int[] free;
        int clothCount;
        int boltCount;

        Stock() {
            cloths = new Cloth[MAX_CLOTHS];
            bolts = new Bolt[MAX_BOLTS];
            free = new int[MAX_BOLTS];
            clothCount = 0;
            boltCount = 0;
        }

        int addCloth(int width, int repeat, boolean half, int shrink) {
            if (clothCount >= MAX_CLOTHS) {
                return NONE;
            }
            cloths[clothCount] = new Cloth(clothCount, width, repeat, half, shrink);
            clothCount++;
            return clothCount - 1;
        }

        int addBolt(Cloth cloth, int length) {
            if (boltCount >= MAX_BOLTS) {
                return NONE;
            }
            bolts[boltCount] = new Bolt(boltCount, cloth, length);
            boltCount++;
            return boltCount - 1;
        }

        Cloth clothAt(int number) {
            return number < 0 || number >= clothCount ? null : cloths[number];
        }

        Bolt boltAt(int number) {
            return number < 0 || number >= boltCount ? null : bolts[number];
        }

        /** How many of the longest bolts of a cloth make up a length, pattern and flaws aside. */
        int fewestBolts(Cloth cloth, int length) {
            int count = sortFree(cloth);
            int sum = 0;
            for (int i = 0; i < count && sum < length; i++) {
                sum += free[i];
                if (sum >= length) {
                    return i + 1;
                }
            }
            return length <= 0 ? 0 : NONE;
        }

        /** Fills free with what is left of a cloth's bolts, the greatest first: how many. */
        private int sortFree(Cloth cloth) {
            int count = 0;
            for (int b = 0; b < boltCount; b++) {
                if (bolts[b].cloth.number != cloth.number) {
                    continue;
                }
                int left = bolts[b].length - bolts[b].used;
                int slot = count;
                for (; slot > 0 && free[slot - 1] < left; slot--) {
                    free[slot] = free[slot - 1];
                }
                free[slot] = left;
                count++;
            }
            return count;
        }
    }

    /** The bytes of a text, and the token that is come to. */
    private static final class Tape {
        final byte[] bytes;
        int length;
        int cursor;
        int kind;
        int start;
        int number;
        /** A name's or word's bytes, the first one highest: eight at most, so that they fit. */
        long name;

        Tape() {
            bytes = new byte[MAX_BYTES];
            length = 0;
        }

        void add(int four) {
            for (int shift = 24; shift >= 0 && length < MAX_BYTES; shift -= 8) {
                bytes[length] = (byte) (four >> shift);
                length++;
            }
        }

        void rewind() {
            cursor = 0;
            kind = END_OF_TEXT;
            start = 0;
        }

        void advance() {
            while (cursor < length && (bytes[cursor] == 32 || bytes[cursor] == 10)) {
                cursor++;
            }
            start = cursor;
            if (cursor >= length) {
                kind = END_OF_TEXT;
            } else if (isLetter(bytes[cursor])) {
                takeLetters();
            } else if (isDigit(bytes[cursor])) {
                takeDigits();
            } else {
                kind = bytes[cursor] == ':' ? COLON : bytes[cursor] == ';' ? SEMICOLON : STRANGE;
                cursor++;
            }
        }

        private void takeLetters() {
            name = 0;
            while (cursor < length && isLetter(bytes[cursor])) {
                name = (name << 8) | bytes[cursor];
                cursor++;
            }
            kind = cursor - start > MAX_LETTERS ? STRANGE : NAME;
            for (int word = 0; word < WORDS.length && kind == NAME; word++) {
                if (WORDS[word] == name) {
                    kind = word;
                }
            }
        }

        private void takeDigits() {
            kind = NUMBER;
            number = 0;
            while (cursor < length && isDigit(bytes[cursor])) {
                // Far above all numbers that may stand, and too low to wrap around.
                number = Math.min(number * 10 + (bytes[cursor] - '0'), 1000000);
                cursor++;
            }
        }

        private static boolean isLetter(int b) {
            return (b >= 'a' && b <= 'z') || (b >= 'A' && b <= 'Z');
        }

        private static boolean isDigit(int b) {
            return b >= '0' && b <= '9';
        }
    }

    /** Face or lining of a window, with its drops; without a cloth there is none. */
    private static final class Layer {
        Cloth cloth;
        int panels;
        int size;
        /** By panel: NONE while the drop lacks. */
        final int[] bolts;
        final int[] places;
        final int[] sizes;

        Layer() {
            cloth = null;
            panels = 0;
            size = 0;
            bolts = new int[MAX_PANELS];
            places = new int[MAX_PANELS];
            sizes = new int[MAX_PANELS];
        }

        void clear() {
            cloth = null;
            panels = 0;
            size = 0;
            Arrays.fill(bolts, NONE);
        }

        boolean isOf(Cloth other) {
            return cloth != null && other != null && cloth.number == other.number;
        }

        int clothNumber() {
            return cloth == null ? NONE : cloth.number;
        }

        /** Whether the panels are few enough. */
        boolean measure(int wide, int full, int height) {
            if (cloth == null) {
                return true;
            }
            int wanted = divideUp(wide * full, 100 * cloth.use());
            panels = Math.min(wanted, MAX_PANELS);
            size = divideUp(height * 1000, 1000 - cloth.shrink);
            return wanted <= MAX_PANELS;
        }

        private static int divideUp(int amount, int by) {
            return by <= 0 ? 0 : (amount + by - 1) / by;
        }

        boolean isLacking(int panel) {
            return panel < 0 || panel >= MAX_PANELS || bolts[panel] == NONE;
        }

        int lackingDrops() {
            return Integer.bitCount(lackingPanels());
        }

        /** As bits. */
        int lackingPanels() {
            int set = 0;
            for (int panel = 0; panel < panels; panel++) {
                if (isLacking(panel)) {
                    set |= 1 << panel;
                }
            }
            return set;
        }

        void lay(int panel, int bolt, int place, int length) {
            if (panel < 0 || panel >= MAX_PANELS) {
                return;
            }
            bolts[panel] = bolt;
            places[panel] = place;
            sizes[panel] = length;
        }

        /** The bolt that drops of this layer are cut from, the lowest if there are more; or NONE. */
        int lowestBolt() {
            int lowest = NONE;
            for (int panel = 0; panel < panels; panel++) {
                if (!isLacking(panel) && (lowest == NONE || bolts[panel] < lowest)) {
                    lowest = bolts[panel];
                }
            }
            return lowest;
        }

        /** Takes over the drops of an earlier order's layer that are still good here. */
        void takeOver(Layer old, boolean split) {
            if (!isOf(old.cloth)) {
                return;
            }
            for (int panel = 0; panel < panels; panel++) {
                if (!old.isLacking(panel) && size <= old.sizes[panel]) {
                    lay(panel, old.bolts[panel], old.places[panel], old.sizes[panel]);
                }
            }
            if (!split) {
                keepOnly(lowestBolt());
            }
        }

        private void keepOnly(int bolt) {
            for (int panel = 0; panel < panels; panel++) {
                if (bolts[panel] != bolt) {
                    bolts[panel] = NONE;
                }
            }
        }
    }

    /** A window of an order. */
    private static final class Window {
        long name;
        /** Bits of the words that have come. */
        int parts;
        int wide;
        int height;
        int full;
        int hems;
        boolean split;
        final Layer face;
        final Layer lining;

        Window() {
            face = new Layer();
            lining = new Layer();
        }

        void clear(long newName) {
            name = newName;
            parts = 0;
            wide = 0;
            height = 0;
            full = 200;
            hems = 300;
            split = false;
            face.clear();
            lining.clear();
        }

        /** Whether it has all it must have, and not too many panels. */
        boolean complete() {
            int needed = 1 << WIDE | 1 << DROP | 1 << FACE;
            if ((parts & needed) != needed) {
                return false;
            }
            boolean faceGood = face.measure(wide, full, height + hems);
            boolean liningGood = lining.measure(wide, full, height + hems);
            return faceGood && liningGood;
        }

        Layer layerAt(int layer) {
            if (layer == 0) {
                return face;
            }
            return layer == 1 && lining.cloth != null ? lining : null;
        }

        int pleats() {
            return Math.max(wide / 120, 1);
        }

        int more() {
            return face.cloth == null ? 0 : face.panels * face.cloth.use() - wide;
        }

        int firstMinutes() {
            return 10 + face.panels * (height / 100);
        }

        int secondMinutes() {
            return 5 + 2 * pleats();
        }

        int lackingDrops() {
            return face.lackingDrops() + lining.lackingDrops();
        }
    }

    /** The windows of a text. */
    private static final class Order {
        final Window[] windows;
        int count;

        Order() {
            windows = new Window[MAX_WINDOWS];
            for (int w = 0; w < MAX_WINDOWS; w++) {
                windows[w] = new Window();
            }
            count = 0;
        }

        Window windowAt(int w) {
            return w < 0 || w >= count ? null : windows[w];
        }

        Window named(long name) {
            for (int w = 0; w < count; w++) {
                if (windows[w].name == name) {
                    return windows[w];
                }
            }
            return null;
        }

        /** A new window, or null if there are as many as may be. */
        Window add(long name) {
            if (count >= MAX_WINDOWS) {
                return null;
            }
            Window added = windows[count];
            added.clear(name);
            count++;
            return added;
        }

        void takeOver(Order old) {
            for (int w = 0; w < count; w++) {
                Window before = old.named(windows[w].name);
                if (before != null) {
                    windows[w].face.takeOver(before.face, windows[w].split);
                    windows[w].lining.takeOver(before.lining, windows[w].split);
                }
            }
        }

        int cutDrops() {
            int drops = 0;
            for (int w = 0; w < count; w++) {
                Window of = windows[w];
                drops += of.face.panels + of.lining.panels - of.lackingDrops();
            }
            return drops;
        }

        int lackingLength(Cloth cloth) {
            int sum = 0;
            for (int w = 0; w < count; w++) {
                for (int l = 0; l < LAYERS; l++) {
                    Layer layer = windows[w].layerAt(l);
                    if (layer != null && layer.isOf(cloth)) {
                        sum += layer.lackingDrops() * layer.size;
                    }
                }
            }
            return sum;
        }
    }

    /** Reads a text into an order, token by token, up to the first fault. */
    private static final class Reader {
        /** What may come next. */
        private static final int OUTSIDE = 0;
        private static final int NAME_DUE = 1;
        private static final int COLON_DUE = 2;
        private static final int NUMBER_DUE = 3;
        private static final int INSIDE = 4;

        int faultKind;
        int faultPlace;
        private int state;
        private Window window;
        /** The word of the latest part of the window. */
        private int part;
        private int sides;

        Reader() {
            faultKind = NONE;
            faultPlace = NONE;
            window = null;
        }

        boolean read(Tape tape, Stock stock, Order into) {
            into.count = 0;
            state = OUTSIDE;
            faultKind = 0;
            faultPlace = NONE;
            tape.rewind();
            // A token has a byte at least, so that the end is come to within these rounds.
            for (int round = 0; round <= MAX_BYTES; round++) {
                tape.advance();
                if (tape.kind == END_OF_TEXT && state == OUTSIDE) {
                    return true;
                }
                faultKind = take(tape, stock, into);
                if (faultKind != 0) {
                    faultPlace = tape.start;
                    return false;
                }
            }
            return true;
        }

        /** Takes a token: its fault, or 0. */
        private int take(Tape tape, Stock stock, Order into) {
            switch (state) {
                case OUTSIDE:
                    state = NAME_DUE;
                    return tape.kind == WINDOW ? 0 : MISPLACED;
                case NAME_DUE:
                    state = COLON_DUE;
                    return takeName(tape, into);
                case COLON_DUE:
                    state = INSIDE;
                    return tape.kind == COLON ? 0 : MISPLACED;
                case NUMBER_DUE:
                    state = INSIDE;
                    return takeNumber(tape, stock);
                default:
                    return takeInside(tape, stock);
            }
        }

        private int takeName(Tape tape, Order into) {
            if (tape.kind != NAME) {
                return MISPLACED;
            }
            if (into.named(tape.name) != null) {
                return REPEATED;
            }
            window = into.add(tape.name);
            part = NONE;
            sides = 0;
            return window == null ? TOO_MANY : 0;
        }

        private int takeInside(Tape tape, Stock stock) {
            if (tape.kind == NUMBER && part == WIDE) {
                return takeNumber(tape, stock);
            }
            if (tape.kind == SEMICOLON) {
                state = OUTSIDE;
                return window != null && window.complete() ? 0 : INCOMPLETE;
            }
            return takePart(tape.kind);
        }

        private int takePart(int word) {
            if (word < WIDE || word > SPLIT || window == null) {
                return MISPLACED;
            }
            if ((window.parts & 1 << word) != 0) {
                return REPEATED;
            }
            window.parts |= 1 << word;
            part = word;
            if (word == SPLIT) {
                window.split = true;
            } else {
                state = NUMBER_DUE;
            }
            return 0;
        }

        private int takeNumber(Tape tape, Stock stock) {
            if (tape.kind != NUMBER || window == null) {
                return MISPLACED;
            }
            if (!isTold(tape.number, stock)) {
                return OUT_OF_RANGE;
            }
            if (part == WIDE && sides >= MAX_SIDES) {
                return TOO_MANY;
            }
            setPart(tape.number, stock);
            return 0;
        }

        private boolean isTold(int number, Stock stock) {
            if (part == FACE || part == LINING) {
                return stock.clothAt(number) != null;
            }
            return part >= 0 && part < LEAST.length && part < MOST.length
                && number >= LEAST[part] && number <= MOST[part];
        }

        private void setPart(int number, Stock stock) {
            switch (part) {
                case WIDE:
                    window.wide += number;
                    sides++;
                    break;
                case DROP:
                    window.height = number;
                    break;
                case FACE:
                    window.face.cloth = stock.clothAt(number);
                    break;
                case LINING:
                    window.lining.cloth = stock.clothAt(number);
                    break;
                case FULL:
                    window.full = number;
                    break;
                case HEMS:
                    window.hems = number;
                    break;
                default:
                    break;
            }
        }
    }

    /** Drops of a layer that are cut together, from one bolt. */
    private static final class Item {
        private Layer layer;
        /** Bits of its panels. */
        private int panels;
        /** The bolt that it must be cut from, or NONE. */
        private int onlyBolt;
        int drops;
        /** Its drops' lengths together: it never takes less of a bolt. */
        int least;

        Item() {
            layer = null;
        }

        void set(Layer newLayer, int newPanels, int newOnlyBolt) {
            layer = newLayer;
            panels = newPanels;
            onlyBolt = newOnlyBolt;
            drops = Integer.bitCount(newPanels);
            least = drops * newLayer.size;
        }

        /** Where it ends if it is cut from a place on, or NOWHERE; if cutting, its drops are laid. */
        int endOn(Bolt bolt, int from, boolean cutting) {
            if (layer == null || (onlyBolt != NONE && onlyBolt != bolt.number)) {
                return NOWHERE;
            }
            int at = from;
            for (int panel = 0; panel < MAX_PANELS; panel++) {
                if ((panels & 1 << panel) == 0) {
                    continue;
                }
                int place = bolt.placeFor(at, bolt.cloth.phaseOf(panel), layer.size);
                if (place == NOWHERE) {
                    return NOWHERE;
                }
                if (cutting) {
                    layer.lay(panel, bolt.number, place, layer.size);
                }
                at = place + layer.size;
            }
            return at;
        }
    }

    /** Finds the plan of a cloth, and cuts by it. Sets of items are bits of their numbers. */
    private static final class Planner {
        private final Item[] items;
        private int itemCount;
        /** The cloth's bolts, the lowest first. */
        private final Bolt[] shelf;
        int shelfCount;
        /** By bolt of the shelf: the set that the plan cuts from it. */
        private final int[] chosen;
        /** By set: bits of the bolts of the shelf that can have it. */
        private final int[] fits;
        /** By set of members: the earliest end at which all of it is cut. */
        private final int[] ends;
        /** By bolt and set: how few bolts, from that bolt of the shelf on, can have the set. */
        private final byte[][] needs;
        private final int[] members;
        private final int[] others;

        Planner() {
            items = new Item[MAX_ITEMS];
            for (int i = 0; i < MAX_ITEMS; i++) {
                items[i] = new Item();
            }
            shelf = new Bolt[MAX_BOLTS];
            chosen = new int[MAX_BOLTS];
            fits = new int[MAX_SETS];
            ends = new int[MAX_SETS];
            needs = new byte[MAX_BOLTS + 1][MAX_SETS];
            members = new int[MAX_ITEMS];
            others = new int[MAX_ITEMS];
        }

        /** The bolts of the plan; 0, NONE and TOO_MANY_ITEMS if there is nothing to lay out. */
        int find(Order order, Stock stock, Cloth cloth) {
            collectItems(order, cloth);
            collectShelf(stock, cloth);
            if (itemCount == 0) {
                return 0;
            }
            if (itemCount > MAX_ITEMS) {
                return TOO_MANY_ITEMS;
            }
            if (stock.fewestBolts(cloth, order.lackingLength(cloth)) == NONE) {
                return NONE;
            }
            int all = (1 << itemCount) - 1;
            Arrays.fill(fits, 0);
            for (int i = 0; i < itemCount; i++) {
                members[i] = i;
            }
            for (int rank = 0; rank < shelfCount; rank++) {
                fillEnds(shelf[rank], shelf[rank].used, members, itemCount);
                markFits(rank, all);
                if (canHave(rank, all)) {
                    // One bolt is the fewest, and the lowest that has all the greatest number.
                    Arrays.fill(chosen, 0);
                    chosen[rank] = all;
                    return 1;
                }
            }
            return chooseSets(all);
        }

        private void collectItems(Order order, Cloth cloth) {
            itemCount = 0;
            for (int w = 0; w < order.count; w++) {
                for (int l = 0; l < LAYERS; l++) {
                    Layer layer = order.windows[w].layerAt(l);
                    if (layer != null && layer.isOf(cloth)) {
                        addItems(layer, order.windows[w].split);
                    }
                }
            }
        }

        private void addItems(Layer layer, boolean split) {
            int lacking = layer.lackingPanels();
            if (!split && lacking != 0) {
                addItem(layer, lacking, layer.lowestBolt());
            }
            for (int panel = 0; split && panel < MAX_PANELS; panel++) {
                if ((lacking & 1 << panel) != 0) {
                    addItem(layer, 1 << panel, NONE);
                }
            }
        }

        /** Counts items beyond those that are planned, so that find sees that there are more. */
        private void addItem(Layer layer, int panels, int onlyBolt) {
            if (itemCount < MAX_ITEMS) {
                items[itemCount].set(layer, panels, onlyBolt);
            }
            itemCount++;
        }

        private void collectShelf(Stock stock, Cloth cloth) {
            shelfCount = 0;
            for (int b = 0; b < stock.boltCount && shelfCount < MAX_BOLTS; b++) {
                if (stock.bolts[b].cloth.number == cloth.number) {
                    shelf[shelfCount] = stock.bolts[b];
                    shelfCount++;
                }
            }
        }

        private void markFits(int rank, int all) {
            for (int set = 0; set <= all; set++) {
                if (ends[set] != NOWHERE) {
                    fits[set] |= 1 << rank;
                }
            }
        }

        private boolean canHave(int rank, int set) {
            return (fits[set] & 1 << rank) != 0;
        }

        /**
         * The earliest end of items that are cut from a place on, in the best order; by the way,
         * of each set of them. A later start never gives an earlier end, so the best order of a
         * set has the best order of all but its last one ahead of that.
         */
        private int fillEnds(Bolt bolt, int from, int[] which, int count) {
            ends[0] = from;
            for (int set = 1; set < 1 << count; set++) {
                int best = NOWHERE;
                for (int last = 0; last < count; last++) {
                    if ((set & 1 << last) == 0) {
                        continue;
                    }
                    int before = ends[set ^ 1 << last];
                    if (before == NOWHERE) {
                        // What a part of the set can't do the set can't do.
                        best = NOWHERE;
                        break;
                    }
                    Item item = items[which[last]];
                    if (before + item.least < best) {
                        best = Math.min(best, item.endOn(bolt, before, false));
                    }
                }
                ends[set] = best;
            }
            return ends[(1 << count) - 1];
        }

        /** Shares all items out: how many bolts have some, or NONE. */
        private int chooseSets(int all) {
            fillNeeds(all);
            int bolts = needs[0][all];
            if (bolts >= NEVER) {
                return NONE;
            }
            int rest = all;
            for (int rank = 0; rank < shelfCount; rank++) {
                chosen[rank] = greatestSet(rank, rest);
                rest ^= chosen[rank];
            }
            return bolts;
        }

        private void fillNeeds(int all) {
            Arrays.fill(needs[shelfCount], (byte) NEVER);
            needs[shelfCount][0] = 0;
            for (int rank = shelfCount - 1; rank >= 0; rank--) {
                // Of the lowest bolt nothing but the whole is asked.
                for (int set = rank == 0 ? all : 0; set <= all; set++) {
                    needs[rank][set] = (byte) fewestFrom(rank, set);
                }
            }
        }

        private int fewestFrom(int rank, int set) {
            int best = needs[rank + 1][set];
            if (best > 1 && canHave(rank, set)) {
                return 1;
            }
            for (int part = (set - 1) & set; part > 0 && best > 2; part = (part - 1) & set) {
                if (canHave(rank, part)) {
                    best = Math.min(best, 1 + needs[rank + 1][set ^ part]);
                }
            }
            return best;
        }

        /** The greatest part of a set for a bolt with which the whole takes no bolt more. */
        private int greatestSet(int rank, int set) {
            for (int part = set; part > 0; part = (part - 1) & set) {
                if (canHave(rank, part) && 1 + needs[rank + 1][set ^ part] == needs[rank][set]) {
                    return part;
                }
            }
            return 0;
        }

        /** Cuts what the plan has for a bolt of the shelf: how many drops. */
        int layOut(int rank) {
            if (rank < 0 || rank >= shelfCount || chosen[rank] == 0) {
                return 0;
            }
            Bolt bolt = shelf[rank];
            int left = 0;
            for (int i = 0; i < itemCount && i < MAX_ITEMS; i++) {
                if ((chosen[rank] & 1 << i) != 0) {
                    members[left] = i;
                    left++;
                }
            }
            int goal = fillEnds(bolt, bolt.used, members, left);
            int drops = 0;
            for (; left > 0; left--) {
                int next = firstOnBestWay(bolt, left, goal);
                Item item = items[members[next]];
                bolt.used = item.endOn(bolt, bolt.used, true);
                drops += item.drops;
                System.arraycopy(members, next + 1, members, next, left - next - 1);
            }
            return drops;
        }

        /** The place among the members of the lowest one behind which the others reach the goal. */
        private int firstOnBestWay(Bolt bolt, int count, int goal) {
            for (int next = 0; next < count - 1; next++) {
                System.arraycopy(members, 0, others, 0, next);
                System.arraycopy(members, next + 1, others, next, count - next - 1);
                int end = items[members[next]].endOn(bolt, bolt.used, false);
                if (end != NOWHERE && fillEnds(bolt, end, others, count - 1) == goal) {
                    return next;
                }
            }
            // One of them does, so that the last one needs no look.
            return count - 1;
        }
    }

    /** The windows of which no drop lacks, as the two benches work them. */
    private static final class Benches {
        final int[] queue;
        final int[] done;
        int count;

        Benches() {
            queue = new int[MAX_WINDOWS];
            done = new int[MAX_WINDOWS];
            count = 0;
        }

        void arrange(Order order) {
            count = 0;
            for (int w = 0; w < order.count; w++) {
                if (order.windows[w].lackingDrops() == 0) {
                    insert(order, w);
                }
            }
            int firstFree = 0;
            int secondFree = 0;
            for (int i = 0; i < count; i++) {
                Window window = order.windows[queue[i]];
                firstFree += window.firstMinutes();
                secondFree = Math.max(firstFree, secondFree) + window.secondMinutes();
                done[i] = secondFree;
            }
        }

        /** Like ones stay by numbers, since the windows come by numbers. */
        private void insert(Order order, int w) {
            int slot = count;
            for (; slot > 0 && goesAhead(order.windows[w], order.windows[queue[slot - 1]]); slot--) {
                queue[slot] = queue[slot - 1];
            }
            queue[slot] = w;
            count++;
        }

        private static boolean goesAhead(Window one, Window other) {
            boolean oneRises = one.firstMinutes() <= one.secondMinutes();
            boolean otherRises = other.firstMinutes() <= other.secondMinutes();
            if (oneRises != otherRises) {
                return oneRises;
            }
            return oneRises
                ? one.firstMinutes() < other.firstMinutes()
                : one.secondMinutes() > other.secondMinutes();
        }
    }
}
