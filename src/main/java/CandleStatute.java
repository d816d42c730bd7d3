/** A statute of candle ends, as ../shared/DOC.md promises it. */
public final class CandleStatute {
    public static final int NONE = -1011;
    public static final int BAD = -1012;
    public static final int FULL = -1013;
    public static final int REFUSED = -1014;
    public static final int NOTHING = -1015;

    private static final int HOUSES = 6;
    private static final int MOST_STUBS = 12;
    private static final int MOST_WAX = 30;
    private static final int MOST_WICK = 9;
    private static final int MOST_LIGHT = 90;
    private static final int MOST_HOURS = 24;
    private static final int MOST_WRITS = 2;
    private static final int TRAY_BEARS = 60;
    private static final int WICK_WEIGHS = 1;
    private static final int MOST_CHARACTERS = 60;
    private static final int MOST_UNDONE = 8;
    private static final int MOST_REASONS = 3;
    private static final int TEXT_IS_WRONG = -2000;
    private static final int NOBODY = -1;
    private static final int NO_FAULT = -1;

    private static final int NO_ROOM = 1;
    private static final int HOUSE_HAS_ENDED = 2;
    private static final int TRAY_TOO_HEAVY = 3;
    private static final int CANNOT_BURN = 4;
    private static final int IS_SNUFFED = 5;
    private static final int BURNS_DOWN_BEFORE = 6;
    private static final int OWES_ALREADY = 7;
    private static final int IS_ITS_OWN = 8;
    private static final int SNUFFED_ALREADY = 9;
    private static final int TOO_LITTLE_WAX = 10;
    private static final int NO_POOLED_WAX = 11;
    private static final int NO_CLAIMS = 12;
    private static final int STORE_TOO_SMALL = 13;
    private static final int IS_SO_ALREADY = 14;
    private static final int LAST_OPEN_HOUSE = 15;
    private static final int ORDER_NOT_CARRIED_OUT = 16;

    private final State now;
    private final State snapshot;
    private boolean hasSnapshot;
    private final History history;
    private final Reasons reasons;
    private final Orders orders;
    private final Sharing sharing;
    private final StringBuilder text;
    private final StringBuilder line;

    public CandleStatute() {
        now = new State();
        snapshot = new State();
        hasSnapshot = false;
        history = new History();
        reasons = new Reasons();
        orders = new Orders();
        sharing = new Sharing();
        text = new StringBuilder();
        line = new StringBuilder();
    }

    // ---- stubs

    public int stub(int house, int wax, int wick) {
        history.begin(now);
        return settle(bringStub(house, wax, wick));
    }

    public int burn(int stub, int hours) {
        history.begin(now);
        return settle(burnStub(stub, hours));
    }

    public int owe(int stub, int house, int light) {
        history.begin(now);
        return settle(oweLight(stub, house, light));
    }

    public int writ(int house, int stub, int hours) {
        history.begin(now);
        return settle(snuffStub(house, stub, hours));
    }

    public int stubOf(int stub, int what) {
        if (!isStub(stub)) {
            return NONE;
        }
        Stubs stubs = now.stubs;
        switch (what) {
            case 0: return stubs.house[stub];
            case 1: return stubs.wax[stub];
            case 2: return stubs.wick[stub];
            case 3: return orNothing(stubs.creditor[stub]);
            case 4: return stubs.debt[stub];
            case 5: return stubs.snuffed[stub];
            case 6: return orNothing(stubs.snuffer[stub]);
            case 7: return stubs.gave[stub];
            default: return BAD;
        }
    }

    // ---- the pool, moulding

    public int pool(int stub, int wax) {
        history.begin(now);
        return settle(poolWax(stub, wax));
    }

    public int share() {
        history.begin(now);
        return settle(sharePool());
    }

    public int part(int house) {
        if (!isHouse(house)) {
            return NONE;
        }
        sharing.divide(now);
        return sharing.parts[house];
    }

    public int partAgain(int house) {
        if (!isHouse(house)) {
            return NONE;
        }
        sharing.deal(now);
        return sharing.pieces[house];
    }

    public int mould(int house, int wax, int wick) {
        history.begin(now);
        return settle(mouldStub(house, wax, wick));
    }

    // ---- houses, hours

    public int heir(int house, int heir) {
        history.begin(now);
        return settle(tellHeir(house, heir));
    }

    public int end(int house) {
        history.begin(now);
        return settle(endHouse(house));
    }

    public int pass(int hours) {
        history.begin(now);
        return settle(passHours(hours));
    }

    public int houseOf(int house, int what) {
        if (!isHouse(house)) {
            return NONE;
        }
        switch (what) {
            case 0: return now.isOpen[house] ? 1 : 0;
            case 1: return now.heir[house];
            case 2: return now.store[house];
            case 3: return now.pooled[house];
            case 4: return now.claimOf(house);
            case 5: return now.stubs.countOn(house);
            case 6: return now.stubs.writsBy(house);
            case 7: return now.stubs.owedBy(house);
            default: return BAD;
        }
    }

    public int inherits(int house) {
        if (!isHouse(house)) {
            return NONE;
        }
        return orNothing(now.successorOf(house));
    }

    public int wouldMelt(int house) {
        if (!isHouse(house)) {
            return NONE;
        }
        int heir = now.successorOf(house);
        return heir == NOBODY ? NOTHING : now.stubs.tooManyFor(house, heir);
    }

    public int weight(int house) {
        return isHouse(house) ? now.stubs.weightOn(house) : NONE;
    }

    public int weightAgain(int house) {
        return isHouse(house) ? now.stubs.weightBesideOthers(house) : NONE;
    }

    // ---- orders

    public int ranked(int place) {
        for (int house = 0; house < HOUSES; house++) {
            if (now.housesAheadOf(house) == place) {
                return house;
            }
        }
        return NONE;
    }

    public int brightest(int place) {
        for (int stub = 0; stub < now.stubs.count; stub++) {
            if (now.stubs.stubsAheadOf(stub) == place) {
                return stub;
            }
        }
        return NONE;
    }

    // ---- texts, lines

    public int append(int code) {
        if (!isFrom(code, 32, 126)) {
            return BAD;
        }
        if (text.length() >= MOST_CHARACTERS) {
            return FULL;
        }
        text.append((char) code);
        return text.length();
    }

    public int run() {
        int fault = orders.read(text);
        text.setLength(0);
        if (fault != NO_FAULT) {
            return TEXT_IS_WRONG - fault;
        }
        history.begin(now);
        for (int order = 0; order < orders.count; order++) {
            int answer = carryOut(order);
            if (answer < 0) {
                history.takeBack(now);
                return refuseOrder(order, answer);
            }
        }
        return settle(orders.count);
    }

    public int tell(int stub) {
        if (!isStub(stub)) {
            return NONE;
        }
        Stubs stubs = now.stubs;
        line.setLength(0);
        line.append(stub).append('@').append(stubs.house[stub]);
        line.append(':').append(stubs.wax[stub]);
        line.append('/').append(stubs.wick[stub]);
        if (stubs.creditor[stub] != NOBODY) {
            line.append('>').append(stubs.creditor[stub]);
            line.append('=').append(stubs.debt[stub]);
        }
        if (stubs.snuffer[stub] != NOBODY) {
            line.append('!').append(stubs.snuffed[stub]);
        }
        return line.length();
    }

    public int tellHouses() {
        line.setLength(0);
        for (int house = 0; house < HOUSES; house++) {
            if (house > 0) {
                line.append(' ');
            }
            writeHouse(house);
        }
        return line.length();
    }

    public int character(int index) {
        return isFrom(index, 0, line.length() - 1) ? line.charAt(index) : NONE;
    }

    // ---- reasons, accounts, undo and the snapshot

    public int reason(int depth, boolean isDetail) {
        if (!isFrom(depth, 0, MOST_REASONS - 1)) {
            return BAD;
        }
        if (depth >= reasons.count) {
            return NOTHING;
        }
        return isDetail ? reasons.details[depth] : reasons.codes[depth];
    }

    public int account(int what) {
        switch (what) {
            case 0: return now.stubs.count;
            case 1: return now.openHouses();
            case 2: return now.stubs.allWrits();
            case 3: return now.stubs.allWax();
            case 4: return now.allStores();
            case 5: return now.pool;
            case 6: return now.brought;
            case 7: return now.burnt;
            case 8: return now.given;
            case 9: return now.paid;
            case 10: return now.stubs.allDebts();
            case 11: return now.hours;
            case 12: return text.length();
            case 13: return history.count;
            default: return BAD;
        }
    }

    public int isBalanced() {
        return isWaxAccountedFor() && areSharesSame() && areWeightsSame() ? 1 : 0;
    }

    public double meanWax() {
        int count = now.stubs.count;
        return count == 0 ? 0.0 : (double) now.stubs.allWax() / (double) count;
    }

    public float snuffedShare() {
        int count = now.stubs.count;
        return count == 0 ? 0.0f : (float) now.stubs.allWrits() / (float) count;
    }

    public int undo() {
        return history.stepBack(now) ? history.count : NOTHING;
    }

    public int save() {
        snapshot.copyFrom(now);
        hasSnapshot = true;
        return now.stubs.count;
    }

    public int restore() {
        if (!hasSnapshot) {
            return NOTHING;
        }
        now.copyFrom(snapshot);
        history.forget();
        return now.stubs.count;
    }

    // ---- changes, as calls and as orders

    private int settle(int answer) {
        if (answer >= 0) {
            history.keep();
        }
        return answer;
    }

    private int bringStub(int house, int wax, int wick) {
        if (!isHouse(house)) {
            return NONE;
        }
        if (!isFrom(wax, 1, MOST_WAX) || !isFrom(wick, 1, MOST_WICK)) {
            return BAD;
        }
        if (!now.isOpen[house]) {
            return refuse(HOUSE_HAS_ENDED, house);
        }
        if (!hasRoomFor(house, wax)) {
            return REFUSED;
        }
        now.brought += wax;
        return now.stubs.put(house, wax, wick);
    }

    private int mouldStub(int house, int wax, int wick) {
        if (!isHouse(house)) {
            return NONE;
        }
        if (!isFrom(wax, 1, MOST_WAX) || !isFrom(wick, 1, MOST_WICK)) {
            return BAD;
        }
        if (!now.isOpen[house]) {
            return refuse(HOUSE_HAS_ENDED, house);
        }
        if (now.store[house] < wax) {
            return refuse(STORE_TOO_SMALL, now.store[house]);
        }
        if (!hasRoomFor(house, wax)) {
            return REFUSED;
        }
        now.store[house] -= wax;
        return now.stubs.put(house, wax, wick);
    }

    /** Refuses for the tray first, as the document names it ahead of the number of stubs. */
    private boolean hasRoomFor(int house, int wax) {
        int weight = now.stubs.weightOn(house) + wax + WICK_WEIGHS;
        if (weight > TRAY_BEARS) {
            refuse(TRAY_TOO_HEAVY, weight);
            return false;
        }
        if (now.stubs.count >= MOST_STUBS) {
            refuse(NO_ROOM, now.stubs.count);
            return false;
        }
        return true;
    }

    private int burnStub(int stub, int hours) {
        if (!isStub(stub)) {
            return NONE;
        }
        if (!isFrom(hours, 1, MOST_WAX)) {
            return BAD;
        }
        Stubs stubs = now.stubs;
        if (stubs.snuffer[stub] != NOBODY) {
            refuse(CANNOT_BURN, stub);
            reasons.putBehind(IS_SNUFFED, stubs.snuffed[stub]);
            return REFUSED;
        }
        if (stubs.wax[stub] < hours) {
            refuse(CANNOT_BURN, stub);
            reasons.putBehind(BURNS_DOWN_BEFORE, stubs.wax[stub]);
            return REFUSED;
        }
        return now.burnDown(stub, hours);
    }

    private int oweLight(int stub, int house, int light) {
        if (!isStub(stub) || !isHouse(house)) {
            return NONE;
        }
        if (!isFrom(light, 1, MOST_LIGHT)) {
            return BAD;
        }
        Stubs stubs = now.stubs;
        if (!now.isOpen[house]) {
            return refuse(HOUSE_HAS_ENDED, house);
        }
        if (stubs.house[stub] == house) {
            return refuse(IS_ITS_OWN, house);
        }
        if (stubs.creditor[stub] != NOBODY) {
            return refuse(OWES_ALREADY, stubs.creditor[stub]);
        }
        stubs.creditor[stub] = house;
        stubs.debt[stub] = light;
        return stubs.owedTo(house);
    }

    private int snuffStub(int house, int stub, int hours) {
        if (!isHouse(house) || !isStub(stub)) {
            return NONE;
        }
        if (!isFrom(hours, 1, MOST_HOURS)) {
            return BAD;
        }
        Stubs stubs = now.stubs;
        if (!now.isOpen[house]) {
            return refuse(HOUSE_HAS_ENDED, house);
        }
        if (stubs.house[stub] == house) {
            return refuse(IS_ITS_OWN, house);
        }
        if (stubs.snuffer[stub] != NOBODY) {
            return refuse(SNUFFED_ALREADY, stubs.snuffed[stub]);
        }
        if (stubs.writsBy(house) >= MOST_WRITS) {
            return refuse(NO_ROOM, stubs.writsBy(house));
        }
        stubs.snuffer[stub] = house;
        stubs.snuffed[stub] = hours;
        return stubs.allWrits();
    }

    private int poolWax(int stub, int wax) {
        if (!isStub(stub)) {
            return NONE;
        }
        if (!isFrom(wax, 1, MOST_WAX)) {
            return BAD;
        }
        if (now.stubs.wax[stub] < wax) {
            return refuse(TOO_LITTLE_WAX, now.stubs.wax[stub]);
        }
        now.pooled[now.stubs.house[stub]] += wax;
        now.pool += wax;
        now.stubs.takeWax(stub, wax);
        return now.pool;
    }

    private int sharePool() {
        if (now.pool == 0) {
            return refuse(NO_POOLED_WAX, now.stubs.count);
        }
        if (now.allClaims() == 0) {
            return refuse(NO_CLAIMS, now.pool);
        }
        sharing.divide(now);
        int served = 0;
        for (int house = 0; house < HOUSES; house++) {
            now.store[house] += sharing.parts[house];
            now.pooled[house] = 0;
            served += sharing.parts[house] > 0 ? 1 : 0;
        }
        now.pool = 0;
        return served;
    }

    private int tellHeir(int house, int heir) {
        if (!isHouse(house) || !isHouse(heir)) {
            return NONE;
        }
        int before = now.heir[house];
        if (before == heir) {
            return refuse(IS_SO_ALREADY, heir);
        }
        now.heir[house] = heir;
        return before;
    }

    private int endHouse(int house) {
        if (!isHouse(house)) {
            return NONE;
        }
        if (!now.isOpen[house]) {
            return refuse(HOUSE_HAS_ENDED, house);
        }
        int heir = now.successorOf(house);
        if (heir == NOBODY) {
            return refuse(LAST_OPEN_HOUSE, house);
        }
        now.handOver(house, heir);
        return heir;
    }

    private int passHours(int hours) {
        if (!isFrom(hours, 1, MOST_HOURS)) {
            return BAD;
        }
        now.hours += hours;
        return now.stubs.shortenWrits(hours);
    }

    private int carryOut(int order) {
        int first = orders.firsts[order];
        int second = orders.seconds[order];
        int third = orders.thirds[order];
        switch (orders.kinds[order]) {
            case 's': return bringStub(first, second, third);
            case 'b': return burnStub(first, second);
            case 'o': return oweLight(first, second, third);
            case 'w': return snuffStub(first, second, third);
            case 'p': return poolWax(first, second);
            case 'd': return sharePool();
            case 'm': return mouldStub(first, second, third);
            case 'h': return tellHeir(first, second);
            case 'e': return endHouse(first);
            case 't': return passHours(first);
            default: return BAD;
        }
    }

    // ---- what the calls above lean on

    private static boolean isFrom(int number, int least, int most) {
        return number >= least && number <= most;
    }

    private static boolean isHouse(int house) {
        return isFrom(house, 0, HOUSES - 1);
    }

    private boolean isStub(int stub) {
        return isFrom(stub, 0, now.stubs.count - 1);
    }

    private static int orNothing(int house) {
        return house == NOBODY ? NOTHING : house;
    }

    private int refuse(int code, int detail) {
        reasons.clear();
        reasons.putBehind(code, detail);
        return REFUSED;
    }

    /** An order with another code than REFUSED has no reason that could stand behind this one. */
    private int refuseOrder(int order, int answer) {
        if (answer != REFUSED) {
            reasons.clear();
        }
        reasons.putAhead(ORDER_NOT_CARRIED_OUT, order);
        return REFUSED;
    }

    private void writeHouse(int house) {
        if (!now.isOpen[house]) {
            line.append('x');
            return;
        }
        line.append(now.store[house]);
        if (now.pooled[house] > 0) {
            line.append('+').append(now.pooled[house]);
        }
    }

    private boolean isWaxAccountedFor() {
        int held = now.stubs.allWax() + now.allStores() + now.pool;
        return now.brought == held + now.burnt && now.pool == now.allPooled();
    }

    private boolean areSharesSame() {
        sharing.divide(now);
        sharing.deal(now);
        int together = 0;
        for (int house = 0; house < HOUSES; house++) {
            if (sharing.parts[house] != sharing.pieces[house]) {
                return false;
            }
            together += sharing.parts[house];
        }
        return now.allClaims() == 0 || together == now.pool;
    }

    private boolean areWeightsSame() {
        for (int house = 0; house < HOUSES; house++) {
            if (now.stubs.weightOn(house) != now.stubs.weightBesideOthers(house)) {
                return false;
            }
        }
        return true;
    }

    /** The stubs as rows of a table; the entries at count and above are left over and mean nothing. */
    private static final class Stubs {
        final int[] house = new int[MOST_STUBS];
        final int[] wax = new int[MOST_STUBS];
        final int[] wick = new int[MOST_STUBS];
        final int[] creditor = new int[MOST_STUBS];
        final int[] debt = new int[MOST_STUBS];
        final int[] snuffer = new int[MOST_STUBS];
        final int[] snuffed = new int[MOST_STUBS];
        final int[] gave = new int[MOST_STUBS];
        int count;

        void copyFrom(Stubs other) {
            count = other.count;
            for (int stub = 0; stub < MOST_STUBS; stub++) {
                copyStub(stub, other, stub);
            }
        }

        private void copyStub(int to, Stubs other, int from) {
            house[to] = other.house[from];
            wax[to] = other.wax[from];
            wick[to] = other.wick[from];
            creditor[to] = other.creditor[from];
            debt[to] = other.debt[from];
            snuffer[to] = other.snuffer[from];
            snuffed[to] = other.snuffed[from];
            gave[to] = other.gave[from];
        }

        int put(int itsHouse, int itsWax, int itsWick) {
            int stub = count;
            house[stub] = itsHouse;
            wax[stub] = itsWax;
            wick[stub] = itsWick;
            forgive(stub);
            release(stub);
            gave[stub] = 0;
            count++;
            return stub;
        }

        void remove(int stub) {
            count--;
            for (int later = stub; later < count; later++) {
                copyStub(later, this, later + 1);
            }
        }

        void takeWax(int stub, int less) {
            wax[stub] -= less;
            if (wax[stub] == 0) {
                remove(stub);
            }
        }

        void forgive(int stub) {
            creditor[stub] = NOBODY;
            debt[stub] = 0;
        }

        void release(int stub) {
            snuffer[stub] = NOBODY;
            snuffed[stub] = 0;
        }

        int payBack(int stub, int light) {
            int paid = Math.min(light, debt[stub]);
            debt[stub] -= paid;
            if (debt[stub] == 0) {
                forgive(stub);
            }
            return paid;
        }

        int shortenWrits(int hours) {
            int ended = 0;
            for (int stub = 0; stub < count; stub++) {
                if (snuffer[stub] != NOBODY) {
                    snuffed[stub] -= hours;
                    if (snuffed[stub] <= 0) {
                        release(stub);
                        ended++;
                    }
                }
            }
            return ended;
        }

        int countOn(int itsHouse) {
            int sum = 0;
            for (int stub = 0; stub < count; stub++) {
                sum += house[stub] == itsHouse ? 1 : 0;
            }
            return sum;
        }

        int weightOn(int itsHouse) {
            int sum = 0;
            for (int stub = 0; stub < count; stub++) {
                sum += house[stub] == itsHouse ? wax[stub] + WICK_WEIGHS : 0;
            }
            return sum;
        }

        int weightBesideOthers(int itsHouse) {
            int left = allWax() + count * WICK_WEIGHS;
            for (int other = 0; other < HOUSES; other++) {
                left -= other == itsHouse ? 0 : weightOn(other);
            }
            return left;
        }

        int tooManyFor(int itsHouse, int heir) {
            int weight = weightOn(heir);
            int melted = 0;
            for (int stub = 0; stub < count; stub++) {
                if (house[stub] == itsHouse) {
                    int more = wax[stub] + WICK_WEIGHS;
                    if (weight + more <= TRAY_BEARS) {
                        weight += more;
                    } else {
                        melted++;
                    }
                }
            }
            return melted;
        }

        int writsBy(int itsHouse) {
            int sum = 0;
            for (int stub = 0; stub < count; stub++) {
                sum += snuffer[stub] == itsHouse ? 1 : 0;
            }
            return sum;
        }

        int owedTo(int itsHouse) {
            int sum = 0;
            for (int stub = 0; stub < count; stub++) {
                sum += creditor[stub] == itsHouse ? debt[stub] : 0;
            }
            return sum;
        }

        int owedBy(int itsHouse) {
            int sum = 0;
            for (int stub = 0; stub < count; stub++) {
                sum += house[stub] == itsHouse ? debt[stub] : 0;
            }
            return sum;
        }

        int allWrits() {
            int sum = 0;
            for (int stub = 0; stub < count; stub++) {
                sum += snuffer[stub] == NOBODY ? 0 : 1;
            }
            return sum;
        }

        int allWax() {
            int sum = 0;
            for (int stub = 0; stub < count; stub++) {
                sum += wax[stub];
            }
            return sum;
        }

        int allDebts() {
            int sum = 0;
            for (int stub = 0; stub < count; stub++) {
                sum += debt[stub];
            }
            return sum;
        }

        int stubsAheadOf(int stub) {
            int ahead = 0;
            for (int other = 0; other < count; other++) {
                ahead += isAhead(other, stub) ? 1 : 0;
            }
            return ahead;
        }

        private boolean isAhead(int one, int other) {
            int light = wax[one] * wick[one];
            int otherLight = wax[other] * wick[other];
            if (light != otherLight) {
                return light > otherLight;
            }
            if (debt[one] != debt[other]) {
                return debt[one] < debt[other];
            }
            return one < other;
        }
    }

    /** All that changes can change. */
    private static final class State {
        final Stubs stubs = new Stubs();
        final boolean[] isOpen = new boolean[HOUSES];
        final int[] heir = new int[HOUSES];
        final int[] store = new int[HOUSES];
        final int[] pooled = new int[HOUSES];
        int pool;
        int brought;
        int burnt;
        int given;
        int paid;
        int hours;

        State() {
            for (int house = 0; house < HOUSES; house++) {
                isOpen[house] = true;
                heir[house] = house + 1 < HOUSES ? house + 1 : 0;
            }
        }

        void copyFrom(State other) {
            stubs.copyFrom(other.stubs);
            for (int house = 0; house < HOUSES; house++) {
                isOpen[house] = other.isOpen[house];
                heir[house] = other.heir[house];
                store[house] = other.store[house];
                pooled[house] = other.pooled[house];
            }
            pool = other.pool;
            brought = other.brought;
            burnt = other.burnt;
            given = other.given;
            paid = other.paid;
            hours = other.hours;
        }

        int burnDown(int stub, int itsHours) {
            int light = itsHours * stubs.wick[stub];
            int paidNow = stubs.payBack(stub, light);
            stubs.gave[stub] += light;
            given += light;
            paid += paidNow;
            burnt += itsHours;
            stubs.takeWax(stub, itsHours);
            return paidNow;
        }

        int claimOf(int house) {
            return isOpen[house] ? pooled[house] + stubs.owedTo(house) : 0;
        }

        int allClaims() {
            int sum = 0;
            for (int house = 0; house < HOUSES; house++) {
                sum += claimOf(house);
            }
            return sum;
        }

        int allStores() {
            int sum = 0;
            for (int house = 0; house < HOUSES; house++) {
                sum += store[house];
            }
            return sum;
        }

        int allPooled() {
            int sum = 0;
            for (int house = 0; house < HOUSES; house++) {
                sum += pooled[house];
            }
            return sum;
        }

        int openHouses() {
            int sum = 0;
            for (int house = 0; house < HOUSES; house++) {
                sum += isOpen[house] ? 1 : 0;
            }
            return sum;
        }

        /** Who inherits if an open house ends: nobody if it has ended, or is the last open one. */
        int successorOf(int house) {
            if (!isOpen[house]) {
                return NOBODY;
            }
            int met = heir[house];
            for (int step = 0; step < HOUSES; step++) {
                if (met != house && isOpen[met]) {
                    return met;
                }
                met = heir[met];
            }
            for (int other = 0; other < HOUSES; other++) {
                if (other != house && isOpen[other]) {
                    return other;
                }
            }
            return NOBODY;
        }

        void handOver(int house, int itsHeir) {
            isOpen[house] = false;
            store[itsHeir] += store[house];
            store[house] = 0;
            pooled[itsHeir] += pooled[house];
            pooled[house] = 0;
            handOverRights(house, itsHeir);
            handOverStubs(house, itsHeir);
            dropWhatIsOwn();
        }

        private void handOverRights(int house, int itsHeir) {
            for (int stub = 0; stub < stubs.count; stub++) {
                if (stubs.creditor[stub] == house) {
                    stubs.creditor[stub] = itsHeir;
                }
                if (stubs.snuffer[stub] == house) {
                    stubs.release(stub);
                }
            }
        }

        private void handOverStubs(int house, int itsHeir) {
            int weight = stubs.weightOn(itsHeir);
            int stub = 0;
            for (int left = stubs.count; left > 0; left--) {
                int more = stubs.wax[stub] + WICK_WEIGHS;
                if (stubs.house[stub] != house) {
                    stub++;
                } else if (weight + more <= TRAY_BEARS) {
                    stubs.house[stub] = itsHeir;
                    weight += more;
                    stub++;
                } else {
                    store[itsHeir] += stubs.wax[stub];
                    stubs.remove(stub);
                }
            }
        }

        private void dropWhatIsOwn() {
            for (int stub = 0; stub < stubs.count; stub++) {
                if (stubs.creditor[stub] == stubs.house[stub]) {
                    stubs.forgive(stub);
                }
                if (stubs.snuffer[stub] == stubs.house[stub]) {
                    stubs.release(stub);
                }
            }
        }

        int housesAheadOf(int house) {
            int ahead = 0;
            for (int other = 0; other < HOUSES; other++) {
                ahead += isAhead(other, house) ? 1 : 0;
            }
            return ahead;
        }

        private boolean isAhead(int one, int other) {
            int claim = claimOf(one);
            int otherClaim = claimOf(other);
            if (claim != otherClaim) {
                return claim > otherClaim;
            }
            if (store[one] != store[other]) {
                return store[one] > store[other];
            }
            return one < other;
        }
    }

    /**
     * What each house would get, by both ways. 512 calls bring at most 15,360 of wax,
     * so that the pool times a claim stays far below what an int holds.
     */
    private static final class Sharing {
        final int[] parts = new int[HOUSES];
        final int[] pieces = new int[HOUSES];
        final int[] rests = new int[HOUSES];

        void divide(State state) {
            int claims = state.allClaims();
            int left = claims == 0 ? 0 : state.pool;
            for (int house = 0; house < HOUSES; house++) {
                int due = state.pool * state.claimOf(house);
                parts[house] = claims == 0 ? 0 : due / claims;
                rests[house] = claims == 0 ? 0 : due % claims;
                left -= parts[house];
            }
            for (int given = 0; given < HOUSES && given < left; given++) {
                giveOneByRest();
            }
        }

        private void giveOneByRest() {
            int first = greatest(rests);
            if (rests[first] > 0) {
                parts[first]++;
                rests[first] = 0;
            }
        }

        void deal(State state) {
            int claims = state.allClaims();
            for (int house = 0; house < HOUSES; house++) {
                pieces[house] = 0;
                rests[house] = state.pool * state.claimOf(house);
            }
            int dealt = claims == 0 ? 0 : state.pool;
            for (int piece = 0; piece < dealt; piece++) {
                int first = greatest(rests);
                pieces[first]++;
                rests[first] -= claims;
            }
        }

        /** The lowest of several that are the greatest. */
        private static int greatest(int[] numbers) {
            int best = 0;
            for (int house = 1; house < HOUSES; house++) {
                if (numbers[house] > numbers[best]) {
                    best = house;
                }
            }
            return best;
        }
    }

    /** The states before the latest changes, in a ring with one row more, for the change that is tried. */
    private static final class History {
        final State[] rows = new State[MOST_UNDONE + 1];
        int next;
        int count;

        History() {
            for (int row = 0; row <= MOST_UNDONE; row++) {
                rows[row] = new State();
            }
        }

        void begin(State state) {
            rows[next].copyFrom(state);
        }

        void takeBack(State state) {
            state.copyFrom(rows[next]);
        }

        void keep() {
            next = next < MOST_UNDONE ? next + 1 : 0;
            count = Math.min(count + 1, MOST_UNDONE);
        }

        boolean stepBack(State state) {
            if (count == 0) {
                return false;
            }
            count--;
            next = next > 0 ? next - 1 : MOST_UNDONE;
            takeBack(state);
            return true;
        }

        void forget() {
            count = 0;
        }
    }

    /** The latest reason, with what stands behind it. */
    private static final class Reasons {
        final int[] codes = new int[MOST_REASONS];
        final int[] details = new int[MOST_REASONS];
        int count;

        void clear() {
            count = 0;
        }

        void putBehind(int code, int detail) {
            if (count < MOST_REASONS) {
                codes[count] = code;
                details[count] = detail;
                count++;
            }
        }

        void putAhead(int code, int detail) {
            count = Math.min(count + 1, MOST_REASONS);
            for (int depth = count - 1; depth > 0; depth--) {
                codes[depth] = codes[depth - 1];
                details[depth] = details[depth - 1];
            }
            codes[0] = code;
            details[0] = detail;
        }
    }

    /** The orders of a text, as they were read; each takes at least one character. */
    private static final class Orders {
        private static final String KINDS = "sbowpdmhet";
        private static final char ONE_DIGIT = '1';
        private static final char ONE_OR_TWO_DIGITS = '2';

        final int[] kinds = new int[MOST_CHARACTERS];
        final int[] firsts = new int[MOST_CHARACTERS];
        final int[] seconds = new int[MOST_CHARACTERS];
        final int[] thirds = new int[MOST_CHARACTERS];
        int count;
        private int at;

        /** Answers the fault position, or NO_FAULT. */
        int read(StringBuilder text) {
            count = 0;
            at = 0;
            for (int order = 0; order < MOST_CHARACTERS; order++) {
                if (!isOrderRead(text, order)) {
                    return at;
                }
                count = order + 1;
                if (at >= text.length()) {
                    return NO_FAULT;
                }
                if (!isSignRead(text, ';')) {
                    return at;
                }
            }
            return at;
        }

        private boolean isOrderRead(StringBuilder text, int order) {
            if (at >= text.length() || KINDS.indexOf(text.charAt(at)) < 0) {
                return false;
            }
            char kind = text.charAt(at);
            String pattern = patternOf(kind);
            kinds[order] = kind;
            at++;
            int numbers = 0;
            for (int i = 0; i < pattern.length(); i++) {
                char sign = pattern.charAt(i);
                if (sign == ONE_DIGIT || sign == ONE_OR_TWO_DIGITS) {
                    if (!hasDigit(text)) {
                        return false;
                    }
                    keepNumber(order, numbers, readNumber(text, sign));
                    numbers++;
                } else if (!isSignRead(text, sign)) {
                    return false;
                }
            }
            return true;
        }

        private static String patternOf(char kind) {
            switch (kind) {
                case 's': return "1:2/1";
                case 'b': return "2*2";
                case 'o': return "2>1=2";
                case 'w': return "1!2*2";
                case 'p': return "2+2";
                case 'm': return "1:2/1";
                case 'h': return "1>1";
                case 'e': return "1";
                case 't': return "2";
                default: return "";
            }
        }

        private boolean isSignRead(StringBuilder text, char sign) {
            if (at >= text.length() || text.charAt(at) != sign) {
                return false;
            }
            at++;
            return true;
        }

        private boolean hasDigit(StringBuilder text) {
            return at < text.length() && text.charAt(at) >= '0' && text.charAt(at) <= '9';
        }

        private int readNumber(StringBuilder text, char digits) {
            int number = 0;
            int most = digits == ONE_DIGIT ? 1 : 2;
            for (int i = 0; i < most && hasDigit(text); i++) {
                number = number * 10 + (text.charAt(at) - '0');
                at++;
            }
            return number;
        }

        private void keepNumber(int order, int place, int number) {
            if (place == 0) {
                firsts[order] = number;
            } else if (place == 1) {
                seconds[order] = number;
            } else {
                thirds[order] = number;
            }
        }
    }
}
