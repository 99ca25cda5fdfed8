/** Skip hire in a small town: see README.md, and the document whose promises it keeps. */
public final class SkipPermits {
    public static final int NO_SUCH = -1, BAD_VALUE = -2, BAD_TEXT = -3, TOO_MANY = -4, NOT_POSSIBLE = -5, NONE = -6;
    public static final int HIRE = 0, PERMIT = 1, FINE = 2, DARK = 3, TIP = 4, TRIP = 5, OIL = 6, TRIPS = 7;

    private static final int[] FIRST_VALUES = {3, 2, 15, 10, 1, 25, 7, 2};
    private static final int[] LOWEST_VALUES = {0, 0, 0, 0, 0, 0, 1, 0};
    private static final int[] HIGHEST_VALUES = {20, 20, 90, 90, 9, 90, 30, 9};

    private static final int SETTINGS = 8, CUSTOMERS = 6, STREETS = 5, DRIVE = 5;
    private static final int FIRST_PLACES = 2, MOST_PLACES = 4, MOST_SKIPS = 10;
    private static final int SIZE_STEP = 20, BIGGEST_SIZE = 3, MOST_GROWTH = 30;
    private static final int MOST_DAYS = 99, LAST_DAY = 9999, MOST_COST_DAYS = 200, MOST_SWAP_DAYS = 60;
    private static final int PAD_LENGTH = 60, CHARACTERS_AT_ONCE = 8, FIRST_SIGN = 33, LAST_SIGN = 126;
    private static final int MOST_UNDOS = 6, SLOTS = 2;

    private final Town town = new Town();
    private final History history = new History();
    private final Pad pad = new Pad();
    private final Town[] slots = new Town[SLOTS];
    private final boolean[] saved = new boolean[SLOTS];

    public SkipPermits() {
        for (int slot = 0; slot < SLOTS; slot++) {
            slots[slot] = new Town();
        }
    }

    // ---- changes

    public int set(int setting, int value) {
        history.prepare(town);
        return history.settle(town.changeSetting(setting, value));
    }

    public int places(int street, int places) {
        history.prepare(town);
        return history.settle(town.changePlaces(street, places));
    }

    public int put(int customer, int size, int street, int growth) {
        history.prepare(town);
        return history.settle(town.bringSkip(customer, size, street, growth));
    }

    public int swap(int skip) {
        history.prepare(town);
        return history.settle(town.swapSkip(skip));
    }

    public int take(int skip) {
        history.prepare(town);
        return history.settle(town.takeSkip(skip));
    }

    public int permit(int skip, int days) {
        history.prepare(town);
        return history.settle(town.prolongPermit(skip, days));
    }

    public int oil(int skip) {
        history.prepare(town);
        return history.settle(town.fillLamp(skip));
    }

    public int growth(int skip, int growth) {
        history.prepare(town);
        return history.settle(town.changeGrowth(skip, growth));
    }

    public int pass(int days) {
        history.prepare(town);
        return history.settle(town.passDays(days));
    }

    public int run() {
        if (new Reader(pad).findFault() != NONE) {
            return BAD_TEXT;
        }
        history.prepare(town);
        Reader reader = new Reader(pad);
        int done = 0;
        for (int orders = 0; orders < PAD_LENGTH && reader.readNext(); orders++) {
            if (town.obey(reader) >= 0) {
                done++;
            }
        }
        pad.empty();
        return history.settle(done);
    }

    // ---- what there is; nothing changes

    public int skip(int skip, int what) {
        Skip found = town.findSkip(skip);
        return found == null ? NO_SUCH : found.tell(what, town.day);
    }

    public int street(int street, int what) {
        return town.tellStreet(street, what);
    }

    public int customer(int customer, int what) {
        return town.tellCustomer(customer, what);
    }

    public int count(int what) {
        if (what == 17) {
            return pad.length;
        }
        if (what == 18) {
            return history.count;
        }
        return town.tellNumber(what);
    }

    // ---- what if; nothing changes

    public int untilFull(int skip) {
        Skip found = town.findSkip(skip);
        return found == null ? NO_SUCH : found.daysUntilFull();
    }

    public int untilFine(int skip) {
        Skip found = town.findSkip(skip);
        return found == null ? NO_SUCH : found.daysUntilFine(town.day);
    }

    public int cost(int customer, int days) {
        return town.costOfDays(customer, days);
    }

    public int bestSwap(int skip, int days, int what) {
        Skip found = town.findSkip(skip);
        if (found == null) {
            return NO_SUCH;
        }
        if (!isWithin(days, 1, MOST_SWAP_DAYS) || !isWithin(what, 0, 1)) {
            return BAD_VALUE;
        }
        int behind = found.bestDayToSwap(days);
        return what == 0 ? behind : found.besideWithSwap(behind, days);
    }

    public int dearest() {
        return town.dearestSkip();
    }

    // ---- texts

    public int write(long characters) {
        return pad.append(characters);
    }

    public int wipe() {
        return pad.empty();
    }

    public int fault() {
        return new Reader(pad).findFault();
    }

    // ---- undo, saving

    public int undo() {
        return history.goBack(town);
    }

    public int save(int slot) {
        if (!isWithin(slot, 0, SLOTS - 1)) {
            return BAD_VALUE;
        }
        slots[slot].become(town);
        saved[slot] = true;
        return town.standing;
    }

    public int restore(int slot) {
        if (!isWithin(slot, 0, SLOTS - 1)) {
            return BAD_VALUE;
        }
        if (!saved[slot]) {
            return NOT_POSSIBLE;
        }
        history.prepare(town);
        town.become(slots[slot]);
        return history.settle(town.standing);
    }

    private static boolean isWithin(int value, int low, int high) {
        return value >= low && value <= high;
    }

    private static int sumOf(int[] values) {
        int sum = 0;
        for (int value : values) {
            sum += value;
        }
        return sum;
    }

    /** One skip; a town keeps its rows and uses them again. */
    private static final class Skip {
        int customer, size, street, load, growth, nights, lastDay, beside, putDay, charged;

        void begin(int newCustomer, int newSize, int newStreet, int newGrowth) {
            customer = newCustomer;
            size = newSize;
            street = newStreet;
            growth = newGrowth;
            load = 0;
            lastDay = NONE;
            beside = 0;
            charged = 0;
        }

        void become(Skip other) {
            customer = other.customer;
            size = other.size;
            street = other.street;
            load = other.load;
            growth = other.growth;
            nights = other.nights;
            lastDay = other.lastDay;
            beside = other.beside;
            putDay = other.putDay;
            charged = other.charged;
        }

        int tell(int what, int day) {
            switch (what) {
                case 0: return customer;
                case 1: return size;
                case 2: return street;
                case 3: return load;
                case 4: return holds();
                case 5: return growth;
                case 6: return nights;
                case 7: return lastDay;
                case 8: return beside;
                case 9: return day - putDay;
                case 10: return charged;
                default: return BAD_VALUE;
            }
        }

        int holds() {
            return SIZE_STEP + SIZE_STEP * size;
        }

        boolean isFull() {
            return load >= holds();
        }

        boolean isOnDrive() {
            return street == DRIVE;
        }

        /** NONE lies before every day, so a skip without a permit needs no test of its own. */
        boolean hasPermitFor(int day) {
            return lastDay >= day;
        }

        /** For how many of the days behind this one the permit lasts. */
        int permitDaysAhead(int day) {
            return lastDay > day ? lastDay - day : 0;
        }

        int daysFined(int days, int day) {
            return isOnDrive() ? 0 : Math.max(0, days - permitDaysAhead(day));
        }

        int daysDark(int days) {
            return isOnDrive() ? 0 : Math.max(0, days - nights);
        }

        int besideIn(int days, int startLoad) {
            return Math.max(0, startLoad + growth * days - holds());
        }

        int besideWithSwap(int behind, int days) {
            return besideIn(behind, load) + besideIn(days - behind, 0);
        }

        int bestDayToSwap(int days) {
            int best = 0;
            for (int behind = 1; behind <= days; behind++) {
                if (besideWithSwap(behind, days) <= besideWithSwap(best, days)) {
                    best = behind;
                }
            }
            return best;
        }

        /** Returns the units that fell beside it. */
        int age(int days) {
            int fallen = besideIn(days, load);
            load += growth * days - fallen;
            beside += fallen;
            if (!isOnDrive()) {
                nights = Math.max(0, nights - days);
            }
            return fallen;
        }

        int daysUntilFull() {
            if (isFull()) {
                return 0;
            }
            if (growth == 0) {
                return NONE;
            }
            return (holds() - load + growth - 1) / growth;
        }

        int daysUntilFine(int day) {
            return isOnDrive() ? NONE : 1 + Math.min(permitDaysAhead(day), nights);
        }
    }

    /** All that undo() and restore() bring back. */
    private static final class Town {
        final int[] settings = FIRST_VALUES.clone();
        final int[] places = new int[STREETS];
        final int[] charged = new int[CUSTOMERS];
        final int[] tipped = new int[CUSTOMERS];
        final int[] fined = new int[CUSTOMERS];
        final Skip[] skips = new Skip[MOST_SKIPS];
        int standing, day, tripsMade, beside;

        Town() {
            for (int street = 0; street < STREETS; street++) {
                places[street] = FIRST_PLACES;
            }
            for (int number = 0; number < MOST_SKIPS; number++) {
                skips[number] = new Skip();
            }
        }

        void become(Town other) {
            System.arraycopy(other.settings, 0, settings, 0, SETTINGS);
            System.arraycopy(other.places, 0, places, 0, STREETS);
            System.arraycopy(other.charged, 0, charged, 0, CUSTOMERS);
            System.arraycopy(other.tipped, 0, tipped, 0, CUSTOMERS);
            System.arraycopy(other.fined, 0, fined, 0, CUSTOMERS);
            for (int number = 0; number < other.standing; number++) {
                skips[number].become(other.skips[number]);
            }
            standing = other.standing;
            day = other.day;
            tripsMade = other.tripsMade;
            beside = other.beside;
        }

        Skip findSkip(int number) {
            return number >= 0 && number < standing ? skips[number] : null;
        }

        int changeSetting(int setting, int value) {
            if (!isWithin(setting, 0, SETTINGS - 1)) {
                return BAD_VALUE;
            }
            if (!isWithin(value, LOWEST_VALUES[setting], HIGHEST_VALUES[setting])) {
                return BAD_VALUE;
            }
            int previous = settings[setting];
            settings[setting] = value;
            return previous;
        }

        int changePlaces(int street, int newPlaces) {
            if (!isWithin(street, 0, STREETS - 1)) {
                return NO_SUCH;
            }
            if (!isWithin(newPlaces, 1, MOST_PLACES)) {
                return BAD_VALUE;
            }
            int previous = places[street];
            places[street] = newPlaces;
            return previous;
        }

        int bringSkip(int customer, int size, int street, int growth) {
            if (!isWithin(customer, 0, CUSTOMERS - 1) || !isWithin(street, 0, DRIVE)) {
                return NO_SUCH;
            }
            if (!isWithin(size, 0, BIGGEST_SIZE) || !isWithin(growth, 0, MOST_GROWTH)) {
                return BAD_VALUE;
            }
            if (!hasPlace(street) || tripsLeft() == 0) {
                return NOT_POSSIBLE;
            }
            if (standing >= MOST_SKIPS) {
                return TOO_MANY;
            }
            int number = standing;
            Skip skip = skips[number];
            skip.begin(customer, size, street, growth);
            skip.nights = settings[OIL];
            skip.putDay = day;
            standing++;
            makeTrip(skip);
            return number;
        }

        int swapSkip(int number) {
            Skip skip = findSkip(number);
            if (skip == null) {
                return NO_SUCH;
            }
            if (tripsLeft() == 0) {
                return NOT_POSSIBLE;
            }
            makeTrip(skip);
            return tipLoad(skip);
        }

        /** A skip that is taken costs the same as one that is swapped, but none comes back. */
        int takeSkip(int number) {
            int load = swapSkip(number);
            if (load >= 0) {
                closeGap(number);
            }
            return load;
        }

        int prolongPermit(int number, int days) {
            Skip skip = findSkip(number);
            if (skip == null) {
                return NO_SUCH;
            }
            if (!isWithin(days, 1, MOST_DAYS)) {
                return BAD_VALUE;
            }
            if (skip.isOnDrive()) {
                return NOT_POSSIBLE;
            }
            int dayBefore = skip.hasPermitFor(day) ? skip.lastDay : day - 1;
            skip.lastDay = dayBefore + days;
            charge(skip, settings[PERMIT] * days);
            return skip.lastDay;
        }

        int fillLamp(int number) {
            Skip skip = findSkip(number);
            if (skip == null) {
                return NO_SUCH;
            }
            int previous = skip.nights;
            skip.nights = settings[OIL];
            return previous;
        }

        int changeGrowth(int number, int growth) {
            Skip skip = findSkip(number);
            if (skip == null) {
                return NO_SUCH;
            }
            if (!isWithin(growth, 0, MOST_GROWTH)) {
                return BAD_VALUE;
            }
            int previous = skip.growth;
            skip.growth = growth;
            return previous;
        }

        /** No skip's day rests on another skip, so each may take all its days at once. */
        int passDays(int days) {
            if (!isWithin(days, 1, MOST_DAYS)) {
                return BAD_VALUE;
            }
            if (day + days > LAST_DAY) {
                return TOO_MANY;
            }
            int coins = 0;
            for (int number = 0; number < standing; number++) {
                coins += passDaysOf(skips[number], days);
            }
            day += days;
            tripsMade = 0;
            return coins;
        }

        private int passDaysOf(Skip skip, int days) {
            int fines = finesIn(skip, days);
            int coins = hireIn(skip, days) + fines;
            charge(skip, coins);
            fined[skip.customer] += fines;
            beside += skip.age(days);
            return coins;
        }

        private int hireIn(Skip skip, int days) {
            return settings[HIRE] * (1 + skip.size) * days;
        }

        private int finesIn(Skip skip, int days) {
            return settings[FINE] * skip.daysFined(days, day) + settings[DARK] * skip.daysDark(days);
        }

        private boolean hasPlace(int street) {
            return street == DRIVE || skipsIn(street) < places[street];
        }

        private int tripsLeft() {
            return Math.max(0, settings[TRIPS] - tripsMade);
        }

        private void makeTrip(Skip skip) {
            tripsMade++;
            charge(skip, settings[TRIP]);
        }

        private int tipLoad(Skip skip) {
            int load = skip.load;
            charge(skip, settings[TIP] * load);
            tipped[skip.customer] += load;
            skip.load = 0;
            return load;
        }

        private void charge(Skip skip, int coins) {
            skip.charged += coins;
            charged[skip.customer] += coins;
        }

        /** The row of the skip that went is kept behind the others, for the next one that is put. */
        private void closeGap(int number) {
            Skip gone = skips[number];
            standing--;
            for (int at = number; at < standing; at++) {
                skips[at] = skips[at + 1];
            }
            skips[standing] = gone;
        }

        /** Returns what the method of the order would. */
        int obey(Reader order) {
            switch (order.kind) {
                case '+': return bringSkip(order.customer, order.size, order.street, order.number);
                case 'w': return swapSkip(order.skip);
                case '-': return takeSkip(order.skip);
                case 'p': return prolongPermit(order.skip, order.number);
                case 'o': return fillLamp(order.skip);
                default: return passDays(order.number);
            }
        }

        int tellStreet(int street, int what) {
            if (!isWithin(street, 0, STREETS - 1)) {
                return NO_SUCH;
            }
            switch (what) {
                case 0: return places[street];
                case 1: return skipsIn(street);
                case 2: return skipsWithoutPermitIn(street);
                default: return BAD_VALUE;
            }
        }

        int tellCustomer(int customer, int what) {
            if (!isWithin(customer, 0, CUSTOMERS - 1)) {
                return NO_SUCH;
            }
            switch (what) {
                case 0: return charged[customer];
                case 1: return skipsOf(customer);
                case 2: return tipped[customer];
                case 3: return fined[customer];
                default: return BAD_VALUE;
            }
        }

        int tellNumber(int what) {
            if (isWithin(what, 0, SETTINGS - 1)) {
                return settings[what];
            }
            switch (what) {
                case 8: return day;
                case 9: return standing;
                case 10: return tripsLeft();
                case 11: return sumOf(charged);
                case 12: return sumOf(tipped);
                case 13: return beside;
                case 14: return sumOf(fined);
                case 15: return sumOfLoads();
                case 16: return fullSkips();
                default: return BAD_VALUE;
            }
        }

        private int skipsIn(int street) {
            int found = 0;
            for (int number = 0; number < standing; number++) {
                if (skips[number].street == street) {
                    found++;
                }
            }
            return found;
        }

        private int skipsWithoutPermitIn(int street) {
            int found = 0;
            for (int number = 0; number < standing; number++) {
                if (skips[number].street == street && !skips[number].hasPermitFor(day)) {
                    found++;
                }
            }
            return found;
        }

        private int skipsOf(int customer) {
            int found = 0;
            for (int number = 0; number < standing; number++) {
                if (skips[number].customer == customer) {
                    found++;
                }
            }
            return found;
        }

        private int sumOfLoads() {
            int sum = 0;
            for (int number = 0; number < standing; number++) {
                sum += skips[number].load;
            }
            return sum;
        }

        private int fullSkips() {
            int found = 0;
            for (int number = 0; number < standing; number++) {
                if (skips[number].isFull()) {
                    found++;
                }
            }
            return found;
        }

        int costOfDays(int customer, int days) {
            if (!isWithin(customer, 0, CUSTOMERS - 1)) {
                return NO_SUCH;
            }
            if (!isWithin(days, 0, MOST_COST_DAYS)) {
                return BAD_VALUE;
            }
            int coins = 0;
            for (int number = 0; number < standing; number++) {
                Skip skip = skips[number];
                if (skip.customer == customer) {
                    coins += hireIn(skip, days) + finesIn(skip, days);
                }
            }
            return coins;
        }

        int dearestSkip() {
            if (standing == 0) {
                return NONE;
            }
            int dearest = 0;
            for (int number = 1; number < standing; number++) {
                if (skips[number].charged > skips[dearest].charged) {
                    dearest = number;
                }
            }
            return dearest;
        }
    }

    /** A ring with one row more than can be undone: there the state waits until its change succeeds. */
    private static final class History {
        private static final int ROWS = MOST_UNDOS + 1;

        final Town[] rows = new Town[ROWS];
        int oldest, count;

        History() {
            for (int row = 0; row < ROWS; row++) {
                rows[row] = new Town();
            }
        }

        void prepare(Town town) {
            rows[(oldest + count) % ROWS].become(town);
        }

        /** Records the prepared state, unless the answer of the change is an error. */
        int settle(int answer) {
            if (answer >= 0) {
                if (count < MOST_UNDOS) {
                    count++;
                } else {
                    oldest = (oldest + 1) % ROWS;
                }
            }
            return answer;
        }

        int goBack(Town town) {
            if (count == 0) {
                return NOT_POSSIBLE;
            }
            count--;
            town.become(rows[(oldest + count) % ROWS]);
            return count;
        }
    }

    private static final class Pad {
        final char[] signs = new char[PAD_LENGTH];
        int length;

        /** Outside of the text it answers 0, which stands in no pad. */
        char signAt(int index) {
            return index >= 0 && index < length ? signs[index] : 0;
        }

        int empty() {
            int previous = length;
            length = 0;
            return previous;
        }

        int append(long characters) {
            int added = signsIn(characters);
            if (added == 0) {
                return BAD_VALUE;
            }
            if (length + added > PAD_LENGTH) {
                return TOO_MANY;
            }
            for (int fromLast = added - 1; fromLast >= 0; fromLast--) {
                signs[length] = (char) codeAt(characters, fromLast);
                length++;
            }
            return length;
        }

        private static int codeAt(long characters, int fromLast) {
            return (int) (characters >>> (8 * fromLast)) & 255;
        }

        /** Returns how many characters there are, 0 if they are not all fit for the pad. */
        private static int signsIn(long characters) {
            for (int fromLast = 0; fromLast < CHARACTERS_AT_ONCE; fromLast++) {
                if (characters >>> (8 * fromLast) == 0) {
                    return fromLast;
                }
                if (!isWithin(codeAt(characters, fromLast), FIRST_SIGN, LAST_SIGN)) {
                    return 0;
                }
            }
            return CHARACTERS_AT_ONCE;
        }
    }

    /** Reads a pad from left to right; once broken, it stays at the character that cannot stand there. */
    private static final class Reader {
        final Pad pad;
        int at, kind, customer, size, street, skip, number;
        boolean broken;

        Reader(Pad pad) {
            this.pad = pad;
        }

        int findFault() {
            int orders = 0;
            while (orders < PAD_LENGTH && readNext()) {
                orders++;
            }
            return broken ? at : NONE;
        }

        /** Returns false behind the last order, and if the order cannot be read. */
        boolean readNext() {
            if (at > 0) {
                if (at >= pad.length) {
                    return false;
                }
                readSign(';');
            }
            if (!broken) {
                readOrder();
            }
            return !broken;
        }

        private void readOrder() {
            kind = pad.signAt(at);
            switch (kind) {
                case '+':
                    at++;
                    customer = readDigit(0, CUSTOMERS - 1);
                    size = readDigit(0, BIGGEST_SIZE);
                    street = readDigit(0, DRIVE);
                    readSign(':');
                    number = readNumber(0, MOST_GROWTH);
                    break;
                case 'w':
                case '-':
                case 'o':
                    at++;
                    skip = readDigit(0, MOST_SKIPS - 1);
                    break;
                case 'p':
                    at++;
                    skip = readDigit(0, MOST_SKIPS - 1);
                    readSign(':');
                    number = readNumber(1, MOST_DAYS);
                    break;
                case '.':
                    at++;
                    number = readNumber(1, MOST_DAYS);
                    break;
                default:
                    broken = true;
            }
        }

        private void readSign(char sign) {
            if (!broken && pad.signAt(at) == sign) {
                at++;
            } else {
                broken = true;
            }
        }

        private int readDigit(int lowest, int highest) {
            int digit = pad.signAt(at) - '0';
            if (broken || !isWithin(digit, lowest, highest)) {
                broken = true;
                return 0;
            }
            at++;
            return digit;
        }

        /** All numbers have two digits at most; one that cannot belong to it is left to fail as the next sign. */
        private int readNumber(int lowest, int highest) {
            int first = readDigit(lowest, 9);
            int second = pad.signAt(at) - '0';
            if (broken || first == 0 || !isWithin(second, 0, 9) || first * 10 + second > highest) {
                return first;
            }
            at++;
            return first * 10 + second;
        }
    }
}
