import java.util.NoSuchElementException;

/** The wardrobe of an opera house; ../shared/DOC.md says what each call promises. */
public final class WardrobeVault {
    private static final int NONE = -1;

    private static final int MAX_PIECES = 40;
    private static final int MAX_BODIES = 10;
    private static final int MAX_SHOWS = 3;
    private static final int MAX_SCENES = 6;
    private static final int MAX_WISHES = 30;
    private static final int MAX_ORDERS = 10;
    private static final int MAX_MEASURED_DAYS = 8;
    private static final int MAX_DRESSERS = 20;
    private static final int MAX_DRESSERS_OF_ONE = 3;

    private static final int MEASURES = 3;
    private static final int LAYERS = 7;
    private static final int PERIODS = 10;
    private static final int COLOURS = 6;
    private static final int LARGEST_SIZE = 250;
    private static final int LARGEST_PADDING = 9;
    private static final int LARGEST_WEIGHT = 99;
    private static final int SLOWEST_FASTENING = 60;
    private static final int LAST_DAY = 9999;
    private static final int LARGEST_DEPOSIT = 9999;

    private static final int FIRST_BODY_SIZE = 100;
    private static final int FIRST_ALLOWANCE = 3;
    private static final int FIRST_FASTENING = 6;
    private static final int FIRST_DRESSERS = 2;

    private static final int EASE = 4;
    private static final int MINUTES_A_UNIT = 20;
    private static final int MINUTES_TO_DYE = 90;
    private static final int COST_WITHOUT_PIECE = 1000;
    // Dearer than any sum that leaves all costumes without a piece, so it is never taken.
    private static final int COST_BARRED = 1000000;

    private static final int WORN_OUT = 100;
    private static final int WEAR_OF_A_NIGHT = 2;

    private static final int RAILS = 4;
    private static final int RAIL_PLACES = 12;
    private static final int LIGHT_RAIL = 0;
    private static final int DAYS_OF_LIGHT = 10;
    private static final int DAYS_TO_SPREAD = 7;
    private static final int DAYS_OF_QUARANTINE = 14;

    private static final int WASH_KINDS = 3;
    private static final int LOAD_WEIGHT = 60;
    private static final int SHORTEST_WASH_HOURS = 2;
    private static final int DRYING_HOURS = 3;
    private static final int HOUR_OF_NOON = 12;

    private static final int TRUNK_WEIGHT = 100;
    private static final int TAILOR_HOURS = 8;
    private static final int MADE_WEIGHT = 5;
    private static final int MADE_EASE = 2;

    private static final char ON_RAIL = 'r';
    private static final char IN_QUARANTINE = 'q';
    private static final char IN_TRUNK = 't';
    private static final char HIRED_OUT = 'h';
    private static final char GONE = 'x';

    private final Stock stock = new Stock();
    private final Body[] bodyRow = new Body[MAX_BODIES];
    private int bodyCount;
    private final Show[] showRow = new Show[MAX_SHOWS];
    private int showCount;
    private int today;
    private int hands = FIRST_DRESSERS;
    private long keptDeposits;
    private final Matching matching = new Matching();
    private final Laundry laundry = new Laundry();
    private final Trunks trunks = new Trunks();
    private final Tailors tailors = new Tailors();

    public WardrobeVault() {
    }

    // ---- pieces

    public int piece(int rail, int layer, int period, int colour, int size, int weight)
            throws IllegalArgumentException, UnsupportedOperationException, IllegalStateException {
        if (!isRail(rail) || !isKindOfPiece(layer, period, colour) || !isSize(size)
                || !isIn(weight, 1, LARGEST_WEIGHT)) {
            throw new IllegalArgumentException("no such rail, or a number is out of range");
        }
        if (stock.isFull(rail)) {
            throw new UnsupportedOperationException("the rail is full");
        }
        if (!hasRoomForOneMore()) {
            throw new IllegalStateException("there are 40 pieces, with those of open orders");
        }
        Piece added = new Piece(layer, period, colour, weight);
        for (int i = 0; i < MEASURES; i++) {
            added.sizes[i] = size;
        }
        return stock.add(added, rail);
    }

    public int set(int piece, char kind, int number)
            throws IndexOutOfBoundsException, IllegalArgumentException {
        Piece chosen = requirePiece(piece);
        if (!isSettable(kind, number)) {
            throw new IllegalArgumentException("no such kind, or the number is out of range");
        }
        int before = chosen.numberOf(kind);
        chosen.putNumber(kind, number);
        return before;
    }

    public int told(int piece, char kind) throws IndexOutOfBoundsException, IllegalArgumentException {
        int number = requirePiece(piece).numberOf(kind);
        if (number == NONE) {
            throw new IllegalArgumentException("no such kind");
        }
        return number;
    }

    public int allowance(int piece, char kind)
            throws IndexOutOfBoundsException, IllegalArgumentException {
        Piece chosen = requirePiece(piece);
        int measure = measureIndex(kind);
        if (measure < 0 || measure >= MEASURES) {
            throw new IllegalArgumentException("no such measure");
        }
        return chosen.allowances[measure];
    }

    public char place(int piece) throws IndexOutOfBoundsException {
        return requirePiece(piece).spot;
    }

    public int copy(int piece, int rail)
            throws IndexOutOfBoundsException, IllegalArgumentException,
            UnsupportedOperationException, IllegalStateException {
        Piece old = requirePiece(piece);
        if (!isRail(rail)) {
            throw new IllegalArgumentException("no such rail");
        }
        if (!old.archived || stock.isFull(rail)) {
            throw new UnsupportedOperationException("not in the archive, or the rail is full");
        }
        if (!hasRoomForOneMore()) {
            throw new IllegalStateException("there are 40 pieces, with those of open orders");
        }
        Piece added = new Piece(old.layer, old.period, 0, old.weight);
        added.fastening = old.fastening;
        for (int i = 0; i < MEASURES; i++) {
            added.sizes[i] = old.sizes[i];
        }
        return stock.add(added, rail);
    }

    // ---- bodies and fitting

    public int body() throws IllegalStateException {
        if (bodyCount >= MAX_BODIES) {
            throw new IllegalStateException("there are 10 bodies");
        }
        bodyRow[bodyCount] = new Body();
        bodyCount++;
        return bodyCount - 1;
    }

    public int measure(int body, int day, int chest, int waist, int length)
            throws IndexOutOfBoundsException, IllegalArgumentException, IllegalStateException {
        Body chosen = requireBody(body);
        if (!isIn(day, 0, LAST_DAY) || !isSize(chest) || !isSize(waist) || !isSize(length)) {
            throw new IllegalArgumentException("a number is out of range");
        }
        int slot = chosen.slotFor(day);
        if (slot == NONE) {
            throw new IllegalStateException("measured on 8 other days");
        }
        chosen.putSizes(slot, day, chest, waist, length);
        return chosen.dayCount;
    }

    public int pad(int body, char kind, int padding)
            throws IndexOutOfBoundsException, IllegalArgumentException {
        Body chosen = requireBody(body);
        int measure = measureIndex(kind);
        if (measure < 0 || measure >= MEASURES || !isIn(padding, 0, LARGEST_PADDING)) {
            throw new IllegalArgumentException("no such measure, or the padding is out of range");
        }
        int before = chosen.paddings[measure];
        chosen.paddings[measure] = padding;
        return before;
    }

    public int measured(int body, int day, char kind)
            throws IndexOutOfBoundsException, IllegalArgumentException {
        Body chosen = requireBody(body);
        int measure = measureIndex(kind);
        if (!isIn(day, 0, LAST_DAY) || measure < 0 || measure >= MEASURES) {
            throw new IllegalArgumentException("the day is out of range, or no such measure");
        }
        return chosen.paddedOn(day)[measure];
    }

    public int fitting(int piece, int body)
            throws IndexOutOfBoundsException, UnsupportedOperationException {
        Piece chosen = requirePiece(piece);
        int minutes = chosen.minutesToFit(requireBody(body).paddedOn(today));
        if (minutes == NONE) {
            throw new UnsupportedOperationException("it cannot be made to fit");
        }
        return minutes;
    }

    public int alter(int piece, int body)
            throws IndexOutOfBoundsException, UnsupportedOperationException {
        Piece chosen = requirePiece(piece);
        int[] wanted = requireBody(body).paddedOn(today);
        if (chosen.spot != ON_RAIL || !chosen.cutTo(wanted)) {
            throw new UnsupportedOperationException("it cannot be done, it fits, or is on no rail");
        }
        return chosen.alterationCount();
    }

    public int undo(int piece)
            throws IndexOutOfBoundsException, UnsupportedOperationException, NoSuchElementException {
        Piece chosen = requirePiece(piece);
        if (chosen.spot != ON_RAIL || chosen.archived) {
            throw new UnsupportedOperationException("on no rail, or in the archive");
        }
        if (!chosen.takeBackCut()) {
            throw new NoSuchElementException("no alteration");
        }
        return chosen.alterationCount();
    }

    public int dye(int piece, int colour)
            throws IndexOutOfBoundsException, IllegalArgumentException, UnsupportedOperationException {
        Piece chosen = requirePiece(piece);
        if (!isIn(colour, 0, COLOURS - 1)) {
            throw new IllegalArgumentException("no such colour");
        }
        int before = chosen.colour;
        if (chosen.spot != ON_RAIL || !chosen.darkenTo(colour)) {
            throw new UnsupportedOperationException("in the archive, on no rail, or not darker");
        }
        return before;
    }

    // ---- shows

    public int show() throws IllegalStateException {
        if (showCount >= MAX_SHOWS) {
            throw new IllegalStateException("there are 3 shows");
        }
        showRow[showCount] = new Show();
        showCount++;
        return showCount - 1;
    }

    public int scene(int show, int minutes, int seconds)
            throws IndexOutOfBoundsException, IllegalArgumentException, IllegalStateException {
        Show chosen = requireShow(show);
        if (!isIn(minutes, 1, 99) || !isIn(seconds, 0, 600)) {
            throw new IllegalArgumentException("a number is out of range");
        }
        if (chosen.sceneCount >= MAX_SCENES) {
            throw new IllegalStateException("the show has 6 scenes");
        }
        chosen.addScene(minutes, seconds);
        return chosen.sceneCount;
    }

    public int wish(int show, int scene, int body, int layer, int period, int colour)
            throws IndexOutOfBoundsException, IllegalArgumentException,
            UnsupportedOperationException, IllegalStateException {
        Show chosen = requireShow(show);
        if (!chosen.hasScene(scene) || !isIn(body, 0, bodyCount - 1)) {
            throw new IndexOutOfBoundsException("no such scene or body");
        }
        if (!isKindOfPiece(layer, period, colour)) {
            throw new IllegalArgumentException("no such layer, period or colour");
        }
        if (chosen.wishIn(scene, body, layer) != null) {
            throw new UnsupportedOperationException("there is such a wish");
        }
        if (chosen.wishCount >= MAX_WISHES) {
            throw new IllegalStateException("the show has 30 wishes");
        }
        Wish fresh = new Wish(scene, body, layer, chosen.wishCount);
        fresh.period = period;
        fresh.colour = colour;
        chosen.addWish(fresh);
        return chosen.wishCount - 1;
    }

    public int costumes(int show) throws IndexOutOfBoundsException {
        return requireShow(show).costumeCount();
    }

    public int dress(int show) throws IndexOutOfBoundsException {
        Show chosen = requireShow(show);
        chosen.forgetGiven();
        matching.begin(stock.count);
        for (int n = 0; n < chosen.wishCount; n++) {
            Wish costume = chosen.costumeAt(n);
            if (costume != null) {
                addCosts(costume);
            }
        }
        matching.solve();
        int row = 0;
        for (int n = 0; n < chosen.wishCount; n++) {
            Wish costume = chosen.costumeAt(n);
            if (costume != null) {
                costume.pieceGiven = matching.pieceOf(row);
                row++;
            }
        }
        return matching.sum();
    }

    public int given(int show, int wish) throws IndexOutOfBoundsException, NoSuchElementException {
        Show chosen = requireShow(show);
        Wish costume = chosen.wishAt(requireWish(chosen, wish).stander);
        if (costume == null || costume.pieceGiven == NONE) {
            throw new NoSuchElementException("the wish has no piece");
        }
        return costume.pieceGiven;
    }

    public int fit(int show) throws IndexOutOfBoundsException {
        Show chosen = requireShow(show);
        int changed = 0;
        for (int n = 0; n < chosen.wishCount; n++) {
            Wish costume = chosen.costumeAt(n);
            if (costume != null && fitCostume(costume)) {
                changed++;
            }
        }
        return changed;
    }

    public int change(int show, int scene, int body, int dressers)
            throws IndexOutOfBoundsException, IllegalArgumentException {
        Show chosen = requireShow(show);
        if (!chosen.hasScene(scene) || scene == chosen.sceneCount - 1
                || !isIn(body, 0, bodyCount - 1)) {
            throw new IndexOutOfBoundsException("no such scene or body");
        }
        if (!isIn(dressers, 0, MAX_DRESSERS_OF_ONE)) {
            throw new IllegalArgumentException("the dressers are out of range");
        }
        return sharedOut(changeWork(chosen, scene, body), dressers);
    }

    public int needed(int show, int scene) throws IndexOutOfBoundsException, NoSuchElementException {
        Show chosen = requireShow(show);
        if (!chosen.hasScene(scene) || scene == chosen.sceneCount - 1) {
            throw new IndexOutOfBoundsException("no such scene");
        }
        int fewest = handsBehind(chosen, scene);
        if (fewest == NONE) {
            throw new NoSuchElementException("some body cannot change in time");
        }
        return fewest;
    }

    public int dressers(int dressers) throws IllegalArgumentException {
        if (!isIn(dressers, 0, MAX_DRESSERS)) {
            throw new IllegalArgumentException("the dressers are out of range");
        }
        int before = hands;
        hands = dressers;
        return before;
    }

    public int neck(int show, int body) throws IndexOutOfBoundsException {
        Show chosen = requireShow(show);
        if (!isIn(body, 0, bodyCount - 1)) {
            throw new IndexOutOfBoundsException("no such body");
        }
        int sum = 0;
        for (int scene = 0; scene < chosen.sceneCount; scene++) {
            sum += outerWeight(chosen, scene, body) * chosen.minutesOf(scene);
        }
        return sum;
    }

    public int play(int show) throws IndexOutOfBoundsException, UnsupportedOperationException {
        Show chosen = requireShow(show);
        if (!allCostumesFit(chosen) || !allChangesPossible(chosen)) {
            throw new UnsupportedOperationException("a costume or a change is not possible");
        }
        int worn = 0;
        for (int n = 0; n < chosen.wishCount; n++) {
            Wish costume = chosen.costumeAt(n);
            Piece given = costume == null ? null : stock.at(costume.pieceGiven);
            if (given != null) {
                given.wearForANight();
                worn++;
            }
        }
        return worn;
    }

    // ---- care and stores

    public int wash() {
        return laundry.launder(stock);
    }

    public int hang(int piece, int rail)
            throws IndexOutOfBoundsException, IllegalArgumentException, UnsupportedOperationException {
        Piece chosen = requirePiece(piece);
        if (!isRail(rail)) {
            throw new IllegalArgumentException("no such rail");
        }
        boolean onRail = chosen.spot == ON_RAIL;
        boolean healthy = chosen.spot == IN_QUARANTINE && !chosen.hasMoths();
        boolean ownRail = onRail && chosen.rail == rail;
        if (!onRail && !healthy || !ownRail && stock.isFull(rail)) {
            throw new UnsupportedOperationException("it is elsewhere, has moths, or the rail is full");
        }
        chosen.hangOn(rail);
        return stock.hangingOn(rail);
    }

    public boolean moths(int piece) throws IndexOutOfBoundsException {
        return requirePiece(piece).takeMoths(today);
    }

    public int quarantine(int piece) throws IndexOutOfBoundsException, UnsupportedOperationException {
        Piece chosen = requirePiece(piece);
        if (chosen.spot != ON_RAIL) {
            throw new UnsupportedOperationException("on no rail");
        }
        chosen.spot = IN_QUARANTINE;
        chosen.quarantineDay = today;
        return stock.countAt(IN_QUARANTINE);
    }

    public int pass(int days) throws IllegalArgumentException {
        if (!isIn(days, 1, 99)) {
            throw new IllegalArgumentException("the days are out of range");
        }
        for (int i = 0; i < days; i++) {
            passOneDay();
        }
        return today;
    }

    // ---- tours, hire, making

    public int pack(int show)
            throws IndexOutOfBoundsException, UnsupportedOperationException, IllegalStateException {
        Show chosen = requireShow(show);
        if (!canBePacked(chosen)) {
            throw new UnsupportedOperationException("a piece is on no rail, or nothing was given");
        }
        if (trunks.count > 0) {
            throw new IllegalStateException("there are trunks");
        }
        for (int scene = 0; scene < chosen.sceneCount; scene++) {
            for (int body = 0; body < bodyCount; body++) {
                packWorn(chosen, scene, body);
            }
        }
        return trunks.count;
    }

    public int trunk(int piece) throws IndexOutOfBoundsException, NoSuchElementException {
        Piece chosen = requirePiece(piece);
        if (chosen.spot != IN_TRUNK) {
            throw new NoSuchElementException("it is in no trunk");
        }
        return chosen.trunkNumber;
    }

    public int lose(int trunk) throws IndexOutOfBoundsException {
        if (!isIn(trunk, 0, trunks.count - 1)) {
            throw new IndexOutOfBoundsException("no such trunk");
        }
        int gone = 0;
        for (int n = 0; n < stock.count; n++) {
            Piece each = stock.at(n);
            if (each != null && each.spot == IN_TRUNK && each.trunkNumber == trunk) {
                each.spot = GONE;
                gone++;
            }
        }
        return gone;
    }

    public int unpack() throws UnsupportedOperationException, IllegalStateException {
        if (stock.freePlaces() < stock.countAt(IN_TRUNK)) {
            throw new UnsupportedOperationException("there is not place enough");
        }
        if (trunks.count == 0) {
            throw new IllegalStateException("there are no trunks");
        }
        return trunks.emptyOnto(stock);
    }

    public int hire(int piece, int days, int deposit)
            throws IndexOutOfBoundsException, IllegalArgumentException, UnsupportedOperationException {
        Piece chosen = requirePiece(piece);
        if (!isIn(days, 1, 99) || !isIn(deposit, 0, LARGEST_DEPOSIT)) {
            throw new IllegalArgumentException("a number is out of range");
        }
        if (chosen.spot != ON_RAIL || chosen.archived) {
            throw new UnsupportedOperationException("on no rail, or in the archive");
        }
        chosen.spot = HIRED_OUT;
        chosen.dueDay = today + days;
        chosen.deposit = deposit;
        return chosen.dueDay;
    }

    public int takeBack(int piece, int wear)
            throws IndexOutOfBoundsException, IllegalArgumentException, UnsupportedOperationException {
        Piece chosen = requirePiece(piece);
        if (!isIn(wear, 0, WORN_OUT)) {
            throw new IllegalArgumentException("the wear is out of range");
        }
        int rail = stock.lowestRail();
        if (chosen.spot != HIRED_OUT || rail == NONE) {
            throw new UnsupportedOperationException("it is not hired out, or there is no place");
        }
        int late = Math.max(0, today - chosen.dueDay);
        int charged = chosen.deposit * Math.min(WORN_OUT, wear + late) / 100;
        keptDeposits += charged;
        chosen.wearMore(wear);
        chosen.hangOn(rail);
        return chosen.deposit - charged;
    }

    public int make(int show, int wish, int day)
            throws IndexOutOfBoundsException, IllegalArgumentException, IllegalStateException {
        Wish wanted = requireWish(requireShow(show), wish);
        if (day <= today || day > LAST_DAY) {
            throw new IllegalArgumentException("the day is out of range");
        }
        if (tailors.count >= MAX_ORDERS || !hasRoomForOneMore()) {
            throw new IllegalStateException("10 orders are open, or there would be over 40 pieces");
        }
        tailors.accept(new Order(wanted, day));
        return tailors.hoursLeft();
    }

    public int orders() {
        return tailors.count;
    }

    // ---- sums

    public long worth() {
        long sum = 0;
        for (int n = 0; n < stock.count; n++) {
            Piece each = stock.at(n);
            if (each != null && each.spot != GONE) {
                sum += each.value();
            }
        }
        return sum;
    }

    public long kept() {
        return keptDeposits;
    }

    public float cleanShare() throws ArithmeticException {
        int onRails = stock.countAt(ON_RAIL);
        if (onRails == 0) {
            throw new ArithmeticException("no piece is on a rail");
        }
        return (float) stock.cleanOnRails() / (float) onRails;
    }

    public double meanWear() throws ArithmeticException {
        int left = stock.count - stock.countAt(GONE);
        if (left <= 0) {
            throw new ArithmeticException("there is no piece");
        }
        return (double) stock.wearOfAll() / (double) left;
    }

    public boolean isSound() {
        for (int rail = 0; rail < RAILS; rail++) {
            if (stock.hangingOn(rail) > RAIL_PLACES) {
                return false;
            }
        }
        for (int n = 0; n < stock.count; n++) {
            Piece each = stock.at(n);
            if (each != null && (each.wear > WORN_OUT || each.wasCutInArchive()
                    || (each.spot == IN_TRUNK) != trunks.holds(n, each))) {
                return false;
            }
        }
        for (int n = 0; n < showCount; n++) {
            Show each = showRow[n];
            if (each != null && each.givesAPieceTwice()) {
                return false;
            }
        }
        return true;
    }

    // ---- what is looked at before a call does anything

    private static boolean isIn(int number, int low, int high) {
        return number >= low && number <= high;
    }

    private static boolean isRail(int rail) {
        return isIn(rail, 0, RAILS - 1);
    }

    private static boolean isSize(int size) {
        return isIn(size, 1, LARGEST_SIZE);
    }

    private static boolean isKindOfPiece(int layer, int period, int colour) {
        return isIn(layer, 0, LAYERS - 1) && isIn(period, 0, PERIODS - 1)
                && isIn(colour, 0, COLOURS - 1);
    }

    private static boolean isSettable(char kind, int number) {
        if (measureIndex(kind) != NONE) {
            return isSize(number);
        }
        if (kind == 'f') {
            return isIn(number, 1, SLOWEST_FASTENING);
        }
        return kind == 'a' && isIn(number, 0, 1);
    }

    private static int measureIndex(char kind) {
        switch (kind) {
            case 'c':
                return 0;
            case 'w':
                return 1;
            case 'l':
                return 2;
            default:
                return NONE;
        }
    }

    private Piece requirePiece(int number) {
        Piece found = stock.at(number);
        if (found == null) {
            throw new IndexOutOfBoundsException("no such piece");
        }
        return found;
    }

    private Body bodyAt(int number) {
        return isIn(number, 0, bodyCount - 1) && number < MAX_BODIES ? bodyRow[number] : null;
    }

    private Body requireBody(int number) {
        Body found = bodyAt(number);
        if (found == null) {
            throw new IndexOutOfBoundsException("no such body");
        }
        return found;
    }

    private Show requireShow(int number) {
        Show found = isIn(number, 0, showCount - 1) && number < MAX_SHOWS ? showRow[number] : null;
        if (found == null) {
            throw new IndexOutOfBoundsException("no such show");
        }
        return found;
    }

    private static Wish requireWish(Show show, int number) {
        Wish found = show.wishAt(number);
        if (found == null) {
            throw new IndexOutOfBoundsException("no such wish");
        }
        return found;
    }

    private boolean hasRoomForOneMore() {
        return stock.count + tailors.count < MAX_PIECES;
    }

    // ---- dressing and playing a show

    private void addCosts(Wish costume) {
        Body wearer = bodyAt(costume.body);
        if (wearer == null) {
            return;
        }
        int[] wanted = wearer.paddedOn(today);
        int row = matching.addRow();
        for (int n = 0; n < stock.count; n++) {
            Piece each = stock.at(n);
            if (each != null) {
                matching.putCost(row, n, each.costFor(costume, wanted));
            }
        }
    }

    private boolean fitCostume(Wish costume) {
        Piece given = stock.at(costume.pieceGiven);
        Body wearer = bodyAt(costume.body);
        if (given == null || wearer == null || given.spot != ON_RAIL) {
            return false;
        }
        boolean dyed = given.darkenTo(costume.colour);
        boolean cut = given.cutTo(wearer.paddedOn(today));
        return dyed || cut;
    }

    private boolean allCostumesFit(Show show) {
        for (int n = 0; n < show.wishCount; n++) {
            Wish costume = show.costumeAt(n);
            if (costume == null) {
                continue;
            }
            Piece given = stock.at(costume.pieceGiven);
            Body wearer = bodyAt(costume.body);
            if (given == null || wearer == null || given.spot != ON_RAIL
                    || given.minutesToFit(wearer.paddedOn(today)) != 0) {
                return false;
            }
        }
        return true;
    }

    private boolean allChangesPossible(Show show) {
        for (int scene = 0; scene < show.sceneCount - 1; scene++) {
            int fewest = handsBehind(show, scene);
            if (fewest == NONE || fewest > hands) {
                return false;
            }
        }
        return true;
    }

    /** The fewest dressers behind a scene, NONE if some body is too slow with all it may have. */
    private int handsBehind(Show show, int scene) {
        int sum = 0;
        for (int body = 0; body < bodyCount; body++) {
            int fewest = handsFor(changeWork(show, scene, body), show.secondsBehind(scene));
            if (fewest == NONE) {
                return NONE;
            }
            sum += fewest;
        }
        return sum;
    }

    private static int handsFor(int work, int seconds) {
        for (int dressers = 0; dressers <= MAX_DRESSERS_OF_ONE; dressers++) {
            if (sharedOut(work, dressers) <= seconds) {
                return dressers;
            }
        }
        return NONE;
    }

    private static int sharedOut(int work, int dressers) {
        int pairs = dressers + 1;
        return pairs < 1 ? work : (work + pairs - 1) / pairs;
    }

    private int changeWork(Show show, int scene, int body) {
        int work = 0;
        for (int layer = show.innermostUnlike(scene, body); layer < LAYERS; layer++) {
            work += fasteningOf(show.wornIn(scene, body, layer));
            work += fasteningOf(show.wornIn(scene + 1, body, layer));
        }
        return work;
    }

    private int fasteningOf(int piece) {
        Piece worn = stock.at(piece);
        return worn == null ? 0 : worn.fastening;
    }

    private int outerWeight(Show show, int scene, int body) {
        int weight = 0;
        int found = 0;
        for (int layer = LAYERS - 1; layer >= 0 && found < 2; layer--) {
            Piece worn = stock.at(show.wornIn(scene, body, layer));
            if (worn != null) {
                weight += worn.weight;
                found++;
            }
        }
        return weight;
    }

    // ---- trunks and days

    private boolean canBePacked(Show show) {
        boolean any = false;
        for (int n = 0; n < show.wishCount; n++) {
            Wish costume = show.costumeAt(n);
            Piece given = costume == null ? null : stock.at(costume.pieceGiven);
            if (given == null) {
                continue;
            }
            if (given.spot != ON_RAIL) {
                return false;
            }
            any = true;
        }
        return any;
    }

    private void packWorn(Show show, int scene, int body) {
        for (int layer = 0; layer < LAYERS; layer++) {
            int number = show.wornIn(scene, body, layer);
            Piece worn = stock.at(number);
            // What an earlier scene has already put into a trunk is on no rail any more.
            if (worn != null && worn.spot == ON_RAIL) {
                trunks.take(number, worn);
            }
        }
    }

    private void passOneDay() {
        today++;
        stock.fadeInLight(today);
        stock.spreadMoths(today);
        stock.feedMoths();
        stock.healInQuarantine(today);
        tailors.sew();
        hangWhatIsDone();
    }

    private void hangWhatIsDone() {
        for (int i = 0; i < MAX_ORDERS; i++) {
            Order done = tailors.firstDone();
            int rail = done == null ? NONE : stock.lowestRail();
            if (rail == NONE) {
                return;
            }
            tailors.drop(done);
            hangMade(done, rail);
        }
    }

    private void hangMade(Order done, int rail) {
        Body wearer = bodyAt(done.body);
        if (wearer == null) {
            return;
        }
        int[] wanted = wearer.paddedOn(done.day);
        Piece made = new Piece(done.layer, done.period, done.colour, MADE_WEIGHT);
        for (int i = 0; i < MEASURES; i++) {
            made.sizes[i] = wanted[i] + MADE_EASE;
        }
        stock.add(made, rail);
    }

    private static final class Piece {
        final int layer;
        final int period;
        final int weight;
        int colour;
        final int[] sizes = new int[MEASURES];
        final int[] allowances = new int[MEASURES];
        final int[] archivedSizes = new int[MEASURES];
        int fastening = FIRST_FASTENING;
        int wear;
        boolean clean = true;
        boolean archived;
        char spot = ON_RAIL;
        int rail;
        int trunkNumber;
        int mothDay = NONE;
        int quarantineDay;
        int dueDay;
        int deposit;
        Alteration last;

        Piece(int layer, int period, int colour, int weight) {
            this.layer = layer;
            this.period = period;
            this.colour = colour;
            this.weight = weight;
            for (int i = 0; i < MEASURES; i++) {
                allowances[i] = FIRST_ALLOWANCE;
            }
        }

        /** The number of a kind, NONE if there is no such kind. */
        int numberOf(char kind) {
            switch (kind) {
                case 'c':
                    return sizes[0];
                case 'w':
                    return sizes[1];
                case 'l':
                    return sizes[2];
                case 'f':
                    return fastening;
                case 'a':
                    return archived ? 1 : 0;
                case 'o':
                    return colour;
                case 'u':
                    return wear;
                case 's':
                    return clean ? 1 : 0;
                case 'm':
                    return hasMoths() ? 1 : 0;
                case 'v':
                    return value();
                default:
                    return NONE;
            }
        }

        void putNumber(char kind, int number) {
            int measure = measureIndex(kind);
            if (measure >= 0 && measure < MEASURES) {
                sizes[measure] = number;
                last = null;
                // What is set is no alteration, so the archive's picture of it moves along.
                archivedSizes[measure] = number;
            } else if (kind == 'f') {
                fastening = number;
            } else if (kind == 'a') {
                putIntoArchive(number == 1);
            }
        }

        void putIntoArchive(boolean into) {
            archived = into;
            for (int i = 0; i < MEASURES; i++) {
                archivedSizes[i] = sizes[i];
            }
        }

        boolean wasCutInArchive() {
            boolean cut = false;
            for (int i = 0; i < MEASURES; i++) {
                cut = cut || archivedSizes[i] != sizes[i];
            }
            return archived && cut;
        }

        int value() {
            int plain = 100 * (layer + 1) * (WORN_OUT - wear) / 100;
            return archived ? 10 * plain : plain;
        }

        /** By how much a measure must change: above 0 let out, below 0 taken in. */
        static int unitsToChange(int size, int wanted) {
            if (size < wanted) {
                return wanted - size;
            }
            return size > wanted + EASE ? wanted + EASE - size : 0;
        }

        /** The minutes that making it fit takes, NONE if it cannot be done. */
        int minutesToFit(int[] wanted) {
            if (wanted == null || wanted.length < MEASURES) {
                return NONE;
            }
            int units = 0;
            boolean barred = archived;
            for (int i = 0; i < MEASURES; i++) {
                int change = unitsToChange(sizes[i], wanted[i]);
                barred = barred || change > allowances[i];
                units += change < 0 ? -change : change;
            }
            if (units > 0 && barred) {
                return NONE;
            }
            return MINUTES_A_UNIT * units;
        }

        /** Alters it; false, and nothing is changed, if it fits or cannot be made to. */
        boolean cutTo(int[] wanted) {
            if (minutesToFit(wanted) <= 0) {
                return false;
            }
            Alteration done = new Alteration(last);
            for (int i = 0; i < MEASURES; i++) {
                int change = unitsToChange(sizes[i], wanted[i]);
                done.changes[i] = change;
                sizes[i] += change;
                allowances[i] -= change;
            }
            last = done;
            return true;
        }

        boolean takeBackCut() {
            Alteration done = last;
            if (done == null) {
                return false;
            }
            for (int i = 0; i < MEASURES; i++) {
                sizes[i] -= done.changes[i];
                allowances[i] += done.changes[i];
            }
            last = done.earlier;
            return true;
        }

        int alterationCount() {
            return last == null ? 0 : last.count;
        }

        boolean darkenTo(int darker) {
            if (archived || darker <= colour) {
                return false;
            }
            colour = darker;
            return true;
        }

        int costFor(Wish costume, int[] wanted) {
            if (layer != costume.layer || period != costume.period || spot != ON_RAIL
                    || wear >= WORN_OUT || !clean) {
                return COST_BARRED;
            }
            int minutes = minutesToFit(wanted);
            if (minutes == NONE) {
                return COST_BARRED;
            }
            if (colour == costume.colour) {
                return minutes;
            }
            return colour > costume.colour || archived ? COST_BARRED : minutes + MINUTES_TO_DYE;
        }

        void wearMore(int more) {
            wear = Math.min(WORN_OUT, wear + more);
        }

        void wearForANight() {
            if (!archived) {
                wearMore(WEAR_OF_A_NIGHT);
            }
            clean = false;
        }

        boolean hasMoths() {
            return mothDay != NONE;
        }

        boolean takeMoths(int day) {
            if (hasMoths()) {
                return false;
            }
            mothDay = day;
            return true;
        }

        void hangOn(int newRail) {
            spot = ON_RAIL;
            rail = newRail;
        }
    }

    private static final class Alteration {
        final Alteration earlier;
        final int count;
        final int[] changes = new int[MEASURES];

        Alteration(Alteration earlier) {
            this.earlier = earlier;
            this.count = earlier == null ? 1 : earlier.count + 1;
        }
    }

    private static final class Body {
        final int[] days = new int[MAX_MEASURED_DAYS];
        final int[][] sizes = new int[MAX_MEASURED_DAYS][MEASURES];
        final int[] paddings = new int[MEASURES];
        // One row for all answers: its reader is done with it ahead of the next call.
        final int[] padded = new int[MEASURES];
        int dayCount = 1;

        Body() {
            for (int i = 0; i < MEASURES; i++) {
                sizes[0][i] = FIRST_BODY_SIZE;
            }
        }

        /** The slot of a day, a new one if it has none yet, NONE if there is no more. */
        int slotFor(int day) {
            for (int i = 0; i < dayCount && i < MAX_MEASURED_DAYS; i++) {
                if (days[i] == day) {
                    return i;
                }
            }
            return dayCount < MAX_MEASURED_DAYS ? dayCount : NONE;
        }

        void putSizes(int slot, int day, int chest, int waist, int length) {
            if (!isSlot(slot)) {
                return;
            }
            days[slot] = day;
            sizes[slot][0] = chest;
            sizes[slot][1] = waist;
            sizes[slot][2] = length;
            dayCount = Math.max(dayCount, slot + 1);
        }

        static boolean isSlot(int slot) {
            return isIn(slot, 0, MAX_MEASURED_DAYS - 1);
        }

        int[] paddedOn(int day) {
            int from = lastUpTo(day);
            int to = firstBehind(day, from);
            if (!isSlot(from) || !isSlot(to)) {
                return padded;
            }
            int since = day - days[from];
            int span = days[to] - days[from];
            for (int i = 0; i < MEASURES; i++) {
                padded[i] = between(sizes[from][i], sizes[to][i], since, span) + paddings[i];
            }
            return padded;
        }

        /** The slot of the last measured day up to this one; slot 0 keeps the day 0. */
        int lastUpTo(int day) {
            int best = 0;
            int bestDay = 0;
            for (int i = 1; i < dayCount && i < MAX_MEASURED_DAYS; i++) {
                if (days[i] <= day && days[i] > bestDay) {
                    best = i;
                    bestDay = days[i];
                }
            }
            return best;
        }

        /** The slot of the first measured day behind this one, the one told if there is none. */
        int firstBehind(int day, int otherwise) {
            int best = otherwise;
            int bestDay = 0;
            for (int i = 0; i < dayCount && i < MAX_MEASURED_DAYS; i++) {
                if (days[i] > day && (bestDay == 0 || days[i] < bestDay)) {
                    best = i;
                    bestDay = days[i];
                }
            }
            return best;
        }

        static int between(int first, int last, int since, int span) {
            return span <= 0 ? first : first + Math.floorDiv((last - first) * since, span);
        }
    }

    private static final class Wish {
        final int scene;
        final int body;
        final int layer;
        int period;
        int colour;
        // The number of the wish that stands for its costume; that one holds the piece.
        int stander;
        int pieceGiven = NONE;

        Wish(int scene, int body, int layer, int number) {
            this.scene = scene;
            this.body = body;
            this.layer = layer;
            this.stander = number;
        }

        boolean wantsTheSame(Wish other) {
            return period == other.period && colour == other.colour;
        }
    }

    private static final class Show {
        final int[] minutes = new int[MAX_SCENES];
        final int[] seconds = new int[MAX_SCENES];
        int sceneCount;
        final Wish[] wishes = new Wish[MAX_WISHES];
        int wishCount;
        // By scene, then body and layer: the wish's number and 1, 0 for none.
        final int[][] plot = new int[MAX_SCENES][MAX_BODIES * LAYERS];

        boolean hasScene(int scene) {
            return isIn(scene, 0, sceneCount - 1) && scene < MAX_SCENES;
        }

        void addScene(int itsMinutes, int secondsBehind) {
            if (sceneCount < 0 || sceneCount >= MAX_SCENES) {
                return;
            }
            minutes[sceneCount] = itsMinutes;
            seconds[sceneCount] = secondsBehind;
            sceneCount++;
        }

        int minutesOf(int scene) {
            return hasScene(scene) ? minutes[scene] : 0;
        }

        int secondsBehind(int scene) {
            return hasScene(scene) ? seconds[scene] : 0;
        }

        Wish wishAt(int number) {
            return number >= 0 && number < wishCount && number < MAX_WISHES ? wishes[number] : null;
        }

        /** The wish of this number if it stands for a costume, else null. */
        Wish costumeAt(int number) {
            Wish found = wishAt(number);
            return found != null && found.stander == number ? found : null;
        }

        Wish wishIn(int scene, int body, int layer) {
            if (scene < 0 || scene >= MAX_SCENES || body < 0 || body >= MAX_BODIES
                    || layer < 0 || layer >= LAYERS) {
                return null;
            }
            int number = plot[scene][body * LAYERS + layer] - 1;
            return number >= 0 && number < MAX_WISHES ? wishes[number] : null;
        }

        void addWish(Wish fresh) {
            if (wishCount < 0 || wishCount >= MAX_WISHES || !hasScene(fresh.scene)
                    || !isIn(fresh.body, 0, MAX_BODIES - 1) || !isIn(fresh.layer, 0, LAYERS - 1)) {
                return;
            }
            wishes[wishCount] = fresh;
            wishCount++;
            plot[fresh.scene][fresh.body * LAYERS + fresh.layer] = wishCount;
            joinCostumes(fresh, wishIn(fresh.scene - 1, fresh.body, fresh.layer));
            joinCostumes(fresh, wishIn(fresh.scene + 1, fresh.body, fresh.layer));
            forgetGiven();
        }

        void joinCostumes(Wish one, Wish other) {
            if (other == null || !one.wantsTheSame(other)) {
                return;
            }
            int low = Math.min(one.stander, other.stander);
            int high = Math.max(one.stander, other.stander);
            for (int n = 0; n < wishCount; n++) {
                Wish each = wishAt(n);
                if (each != null && each.stander == high) {
                    each.stander = low;
                }
            }
        }

        void forgetGiven() {
            for (int n = 0; n < wishCount; n++) {
                Wish each = wishAt(n);
                if (each != null) {
                    each.pieceGiven = NONE;
                }
            }
        }

        int costumeCount() {
            int sum = 0;
            for (int n = 0; n < wishCount; n++) {
                if (costumeAt(n) != null) {
                    sum++;
                }
            }
            return sum;
        }

        int wornIn(int scene, int body, int layer) {
            Wish wish = wishIn(scene, body, layer);
            Wish costume = wish == null ? null : wishAt(wish.stander);
            return costume == null ? NONE : costume.pieceGiven;
        }

        /** The innermost layer that is unlike in the next scene, LAYERS if there is none. */
        int innermostUnlike(int scene, int body) {
            for (int layer = 0; layer < LAYERS; layer++) {
                if (wornIn(scene, body, layer) != wornIn(scene + 1, body, layer)) {
                    return layer;
                }
            }
            return LAYERS;
        }

        boolean givesAPieceTwice() {
            for (int a = 0; a < wishCount; a++) {
                for (int b = 0; b < a; b++) {
                    Wish one = costumeAt(a);
                    Wish other = costumeAt(b);
                    if (one != null && other != null && one.pieceGiven != NONE
                            && one.pieceGiven == other.pieceGiven) {
                        return true;
                    }
                }
            }
            return false;
        }
    }

    private static final class Stock {
        final Piece[] pieces = new Piece[MAX_PIECES];
        int count;
        final boolean[] infested = new boolean[RAILS];

        Piece at(int number) {
            return number >= 0 && number < count && number < MAX_PIECES ? pieces[number] : null;
        }

        int add(Piece added, int rail) {
            if (count < 0 || count >= MAX_PIECES) {
                return NONE;
            }
            added.hangOn(rail);
            pieces[count] = added;
            count++;
            return count - 1;
        }

        int hangingOn(int rail) {
            int sum = 0;
            for (int n = 0; n < count; n++) {
                Piece each = at(n);
                if (each != null && each.spot == ON_RAIL && each.rail == rail) {
                    sum++;
                }
            }
            return sum;
        }

        boolean isFull(int rail) {
            return hangingOn(rail) >= RAIL_PLACES;
        }

        /** The lowest rail with place, NONE if there is none. */
        int lowestRail() {
            for (int rail = 0; rail < RAILS; rail++) {
                if (!isFull(rail)) {
                    return rail;
                }
            }
            return NONE;
        }

        int freePlaces() {
            return RAILS * RAIL_PLACES - countAt(ON_RAIL);
        }

        int countAt(char spot) {
            int sum = 0;
            for (int n = 0; n < count; n++) {
                Piece each = at(n);
                if (each != null && each.spot == spot) {
                    sum++;
                }
            }
            return sum;
        }

        int cleanOnRails() {
            int sum = 0;
            for (int n = 0; n < count; n++) {
                Piece each = at(n);
                if (each != null && each.spot == ON_RAIL && each.clean) {
                    sum++;
                }
            }
            return sum;
        }

        int wearOfAll() {
            int sum = 0;
            for (int n = 0; n < count; n++) {
                Piece each = at(n);
                if (each != null && each.spot != GONE) {
                    sum += each.wear;
                }
            }
            return sum;
        }

        void fadeInLight(int day) {
            if (day % DAYS_OF_LIGHT != 0) {
                return;
            }
            for (int n = 0; n < count; n++) {
                Piece each = at(n);
                if (each != null && each.spot == ON_RAIL && each.rail == LIGHT_RAIL) {
                    each.wearMore(1);
                }
            }
        }

        void spreadMoths(int day) {
            for (int rail = 0; rail < RAILS; rail++) {
                infested[rail] = false;
            }
            for (int n = 0; n < count; n++) {
                Piece each = at(n);
                if (each != null && each.spot == ON_RAIL && each.hasMoths()
                        && day - each.mothDay >= DAYS_TO_SPREAD && isRail(each.rail)) {
                    infested[each.rail] = true;
                }
            }
            for (int n = 0; n < count; n++) {
                Piece each = at(n);
                if (each != null && each.spot == ON_RAIL && isRail(each.rail) && infested[each.rail]) {
                    each.takeMoths(day);
                }
            }
        }

        void feedMoths() {
            for (int n = 0; n < count; n++) {
                Piece each = at(n);
                if (each != null && each.spot != GONE && each.hasMoths()) {
                    each.wearMore(1);
                }
            }
        }

        void healInQuarantine(int day) {
            for (int n = 0; n < count; n++) {
                Piece each = at(n);
                if (each != null && each.spot == IN_QUARANTINE
                        && day - each.quarantineDay >= DAYS_OF_QUARANTINE) {
                    each.mothDay = NONE;
                }
            }
        }
    }

    /**
     * Gives pieces to costumes with the least sum of costs. Rows are costumes from 1 on; columns
     * from 1 on are the pieces, behind them one for each row that means no piece. Row 0 stands
     * for all columns that no costume has.
     */
    private static final class Matching {
        private static final int MAX_COLUMNS = MAX_PIECES + MAX_WISHES;
        private static final int FAR = 1000000000;

        final int[][] costs = new int[MAX_WISHES][MAX_PIECES];
        int rows;
        int pieces;
        final int[] rowPrice = new int[MAX_WISHES + 1];
        final int[] columnPrice = new int[MAX_COLUMNS + 1];
        final int[] rowOf = new int[MAX_COLUMNS + 1];
        final int[] columnOf = new int[MAX_WISHES + 1];
        final int[] slack = new int[MAX_COLUMNS + 1];
        final int[] cameFrom = new int[MAX_COLUMNS + 1];
        final boolean[] reached = new boolean[MAX_COLUMNS + 1];
        final int[] takes = new int[MAX_WISHES + 1];
        final int[] queue = new int[MAX_COLUMNS + 1];
        int queued;

        void begin(int pieceCount) {
            rows = 0;
            pieces = Math.max(0, Math.min(MAX_PIECES, pieceCount));
        }

        /** Adds a costume and answers its number from 0 on, NONE if there are too many. */
        int addRow() {
            if (rows < 0 || rows >= MAX_WISHES) {
                return NONE;
            }
            for (int n = 0; n < MAX_PIECES; n++) {
                costs[rows][n] = COST_BARRED;
            }
            rows++;
            return rows - 1;
        }

        void putCost(int row, int piece, int cost) {
            if (isIn(row, 0, MAX_WISHES - 1) && isIn(piece, 0, MAX_PIECES - 1)) {
                costs[row][piece] = cost;
            }
        }

        int pieceOf(int row) {
            if (!isIn(row, 0, MAX_WISHES - 1)) {
                return NONE;
            }
            int column = columnOf[row + 1];
            return column >= 1 && column <= pieces ? column - 1 : NONE;
        }

        int sum() {
            int sum = 0;
            for (int row = 1; row <= rows && row <= MAX_WISHES; row++) {
                sum += cost(row, columnOf[row]);
            }
            return sum;
        }

        void solve() {
            clearRows();
            for (int row = 1; row <= rows; row++) {
                seat(row);
            }
            for (int column = 1; column <= columns(); column++) {
                int row = rowOf[column];
                if (isIn(row, 1, MAX_WISHES)) {
                    columnOf[row] = column;
                }
            }
            for (int row = 1; row <= rows; row++) {
                preferLowest(row);
            }
        }

        int columns() {
            return Math.min(MAX_COLUMNS, pieces + rows);
        }

        void clearRows() {
            for (int row = 0; row <= MAX_WISHES; row++) {
                rowPrice[row] = 0;
                columnOf[row] = 0;
            }
            for (int column = 0; column <= MAX_COLUMNS; column++) {
                columnPrice[column] = 0;
                rowOf[column] = 0;
            }
        }

        int cost(int row, int column) {
            if (row < 1 || row > MAX_WISHES || column < 1) {
                return COST_BARRED;
            }
            if (column <= pieces && column <= MAX_PIECES) {
                return costs[row - 1][column - 1];
            }
            return column - pieces == row ? COST_WITHOUT_PIECE : COST_BARRED;
        }

        /** How much dearer a row pays a column than the prices of both together. */
        int reduced(int row, int column) {
            if (row < 0 || row > MAX_WISHES || column < 0 || column > MAX_COLUMNS) {
                return FAR;
            }
            if (row == 0) {
                return -columnPrice[column];
            }
            return cost(row, column) - rowPrice[row] - columnPrice[column];
        }

        /** Gives the row a column by the shortest way of changes, column 0 being its start. */
        void seat(int row) {
            for (int column = 0; column <= MAX_COLUMNS; column++) {
                slack[column] = FAR;
                cameFrom[column] = 0;
                reached[column] = false;
            }
            rowOf[0] = row;
            int at = 0;
            for (int step = 0; step <= MAX_COLUMNS; step++) {
                at = reachNext(at);
                if (!isIn(at, 1, MAX_COLUMNS) || rowOf[at] == 0) {
                    break;
                }
            }
            for (int step = 0; step <= MAX_COLUMNS && isIn(at, 1, MAX_COLUMNS); step++) {
                int before = cameFrom[at];
                if (!isIn(before, 0, MAX_COLUMNS)) {
                    return;
                }
                rowOf[at] = rowOf[before];
                at = before;
            }
        }

        int reachNext(int at) {
            if (!isIn(at, 0, MAX_COLUMNS)) {
                return 0;
            }
            reached[at] = true;
            int nearest = 0;
            for (int column = 1; column <= columns(); column++) {
                if (reached[column]) {
                    continue;
                }
                int far = reduced(rowOf[at], column);
                if (far < slack[column]) {
                    slack[column] = far;
                    cameFrom[column] = at;
                }
                if (nearest == 0 || slack[column] < slack[nearest]) {
                    nearest = column;
                }
            }
            if (nearest > 0) {
                shiftPrices(slack[nearest]);
            }
            return nearest;
        }

        void shiftPrices(int by) {
            for (int column = 0; column <= columns(); column++) {
                int row = rowOf[column];
                if (!reached[column]) {
                    slack[column] -= by;
                } else if (isIn(row, 1, MAX_WISHES)) {
                    rowPrice[row] += by;
                    columnPrice[column] -= by;
                }
            }
        }

        /**
         * Moves the row to the lowest piece of any best way that leaves all lower rows where they
         * are. With these prices the best ways are just those whose reduced costs are all 0, so
         * a chain of such changes that ends at the column given up is looked for, from its end.
         */
        void preferLowest(int row) {
            if (!isIn(row, 1, MAX_WISHES)) {
                return;
            }
            int givenUp = columnOf[row];
            if (!isIn(givenUp, 1, MAX_COLUMNS)) {
                return;
            }
            int column = nextTight(row, 0, givenUp);
            if (column == NONE) {
                return;
            }
            markChains(row, givenUp);
            for (int step = 0; step <= MAX_COLUMNS && column != NONE; step++) {
                if (isIn(column, 0, MAX_COLUMNS) && reached[column]) {
                    moveAlong(row, column, givenUp);
                    return;
                }
                column = nextTight(row, column, givenUp);
            }
        }

        /** The first piece's column behind this one whose reduced cost is 0, NONE if there is none. */
        int nextTight(int row, int behind, int end) {
            for (int column = behind + 1; column < end && column <= pieces; column++) {
                if (reduced(row, column) == 0) {
                    return column;
                }
            }
            return NONE;
        }

        void markChains(int row, int givenUp) {
            for (int column = 0; column <= MAX_COLUMNS; column++) {
                reached[column] = false;
            }
            for (int taker = 0; taker <= MAX_WISHES; taker++) {
                takes[taker] = 0;
            }
            queued = 0;
            enqueue(givenUp);
            for (int next = 0; next < queued && next <= MAX_COLUMNS; next++) {
                offer(queue[next], row);
            }
        }

        void enqueue(int column) {
            if (column >= 1 && column <= MAX_COLUMNS && queued >= 0 && queued <= MAX_COLUMNS
                    && !reached[column]) {
                reached[column] = true;
                queue[queued] = column;
                queued++;
            }
        }

        void offer(int column, int row) {
            for (int taker = 0; taker <= rows && taker <= MAX_WISHES; taker++) {
                boolean free = taker == 0 || taker > row;
                if (free && takes[taker] == 0 && reduced(taker, column) == 0) {
                    takes[taker] = column;
                    enqueueThoseOf(taker);
                }
            }
        }

        void enqueueThoseOf(int taker) {
            for (int column = 1; column <= columns(); column++) {
                if (rowOf[column] == taker) {
                    enqueue(column);
                }
            }
        }

        void moveAlong(int row, int column, int givenUp) {
            int taker = row;
            int at = column;
            for (int step = 0; step <= MAX_COLUMNS; step++) {
                if (!isIn(at, 1, MAX_COLUMNS) || !isIn(taker, 0, MAX_WISHES)) {
                    return;
                }
                int loser = rowOf[at];
                rowOf[at] = taker;
                columnOf[taker] = at;
                if (at == givenUp || !isIn(loser, 0, MAX_WISHES)) {
                    return;
                }
                taker = loser;
                at = takes[loser];
            }
        }
    }

    private static final class Laundry {
        final int[] loadOf = new int[MAX_PIECES];
        final int[] loadKind = new int[MAX_PIECES];
        final int[] loadWeight = new int[MAX_PIECES];
        final boolean[] dryInTime = new boolean[MAX_PIECES];
        int loads;

        int launder(Stock stock) {
            loads = 0;
            for (int n = 0; n < MAX_PIECES; n++) {
                loadOf[n] = NONE;
            }
            for (int kind = 0; kind < WASH_KINDS; kind++) {
                makeLoads(stock, kind);
            }
            runMachines();
            return takeOut(stock);
        }

        void makeLoads(Stock stock, int kind) {
            for (int step = 0; step < MAX_PIECES; step++) {
                int number = heaviestLeft(stock, kind);
                Piece next = stock.at(number);
                if (next == null || number >= MAX_PIECES) {
                    return;
                }
                loadOf[number] = loadFor(kind, next.weight);
            }
        }

        int heaviestLeft(Stock stock, int kind) {
            int best = NONE;
            int bestWeight = 0;
            for (int n = 0; n < stock.count && n < MAX_PIECES; n++) {
                Piece each = stock.at(n);
                if (each != null && each.spot == ON_RAIL && !each.clean && loadOf[n] == NONE
                        && each.layer % WASH_KINDS == kind && each.weight > bestWeight) {
                    best = n;
                    bestWeight = each.weight;
                }
            }
            return best;
        }

        int loadFor(int kind, int weight) {
            for (int load = 0; load < loads && load < MAX_PIECES; load++) {
                if (loadKind[load] == kind && loadWeight[load] + weight <= LOAD_WEIGHT) {
                    loadWeight[load] += weight;
                    return load;
                }
            }
            if (loads < 0 || loads >= MAX_PIECES) {
                return NONE;
            }
            loadKind[loads] = kind;
            loadWeight[loads] = weight;
            loads++;
            return loads - 1;
        }

        void runMachines() {
            int first = 0;
            int second = 0;
            for (int load = 0; load < loads && load < MAX_PIECES; load++) {
                int hours = SHORTEST_WASH_HOURS + loadKind[load];
                int end;
                if (first <= second) {
                    first += hours;
                    end = first;
                } else {
                    second += hours;
                    end = second;
                }
                dryInTime[load] = end + DRYING_HOURS <= HOUR_OF_NOON;
            }
        }

        int takeOut(Stock stock) {
            int cleaned = 0;
            for (int n = 0; n < stock.count && n < MAX_PIECES; n++) {
                Piece each = stock.at(n);
                int load = loadOf[n];
                if (each == null || !isIn(load, 0, MAX_PIECES - 1)) {
                    continue;
                }
                each.wearMore(1);
                if (dryInTime[load]) {
                    each.clean = true;
                    cleaned++;
                }
            }
            return cleaned;
        }
    }

    private static final class Trunks {
        int count;
        int weightOfLast;
        final int[] packed = new int[MAX_PIECES];
        int packedCount;

        void take(int number, Piece piece) {
            if (packedCount < 0 || packedCount >= MAX_PIECES) {
                return;
            }
            if (count == 0 || weightOfLast + piece.weight > TRUNK_WEIGHT) {
                count++;
                weightOfLast = 0;
            }
            weightOfLast += piece.weight;
            piece.spot = IN_TRUNK;
            piece.trunkNumber = count - 1;
            packed[packedCount] = number;
            packedCount++;
        }

        int emptyOnto(Stock stock) {
            int hung = 0;
            for (int i = 0; i < packedCount && i < MAX_PIECES; i++) {
                Piece each = stock.at(packed[i]);
                int rail = stock.lowestRail();
                // What was in a lost trunk is gone, and stands in the row still.
                if (each != null && each.spot == IN_TRUNK && rail != NONE) {
                    each.hangOn(rail);
                    hung++;
                }
            }
            count = 0;
            packedCount = 0;
            return hung;
        }

        boolean holds(int number, Piece piece) {
            for (int i = 0; i < packedCount && i < MAX_PIECES; i++) {
                if (packed[i] == number) {
                    return piece.spot != GONE && isIn(piece.trunkNumber, 0, count - 1);
                }
            }
            return false;
        }
    }

    private static final class Order {
        final int body;
        final int layer;
        final int period;
        final int colour;
        final int day;
        int hours;
        // The how-manieth to be done it was, 0 as long as it is not.
        int doneAs;

        Order(Wish wanted, int day) {
            this.body = wanted.body;
            this.layer = wanted.layer;
            this.period = wanted.period;
            this.colour = wanted.colour;
            this.day = day;
            this.hours = TAILOR_HOURS * (wanted.layer + 1);
        }
    }

    private static final class Tailors {
        final Order[] open = new Order[MAX_ORDERS];
        int count;
        int doneSoFar;

        void accept(Order fresh) {
            if (count >= 0 && count < MAX_ORDERS) {
                open[count] = fresh;
                count++;
            }
        }

        int hoursLeft() {
            int sum = 0;
            for (int i = 0; i < count && i < MAX_ORDERS; i++) {
                Order each = open[i];
                if (each != null) {
                    sum += each.hours;
                }
            }
            return sum;
        }

        void sew() {
            int left = TAILOR_HOURS;
            for (int step = 0; step < MAX_ORDERS && left > 0; step++) {
                Order next = soonest();
                if (next == null) {
                    return;
                }
                int spent = Math.min(left, next.hours);
                left -= spent;
                next.hours -= spent;
                if (next.hours == 0) {
                    doneSoFar++;
                    next.doneAs = doneSoFar;
                }
            }
        }

        Order soonest() {
            Order best = null;
            for (int i = 0; i < count && i < MAX_ORDERS; i++) {
                Order each = open[i];
                if (each != null && each.doneAs == 0 && (best == null || each.day < best.day)) {
                    best = each;
                }
            }
            return best;
        }

        Order firstDone() {
            Order best = null;
            for (int i = 0; i < count && i < MAX_ORDERS; i++) {
                Order each = open[i];
                if (each != null && each.doneAs > 0 && (best == null || each.doneAs < best.doneAs)) {
                    best = each;
                }
            }
            return best;
        }

        /** Closes an order; those behind it move up, so that the row stays in the given order. */
        void drop(Order closed) {
            int left = 0;
            for (int i = 0; i < count && i < MAX_ORDERS; i++) {
                Order each = open[i];
                if (each != closed && left < MAX_ORDERS) {
                    open[left] = each;
                    left++;
                }
            }
            for (int i = left; i < count && i < MAX_ORDERS; i++) {
                open[i] = null;
            }
            count = left;
        }
    }
}
