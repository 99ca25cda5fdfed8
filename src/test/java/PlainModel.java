import java.util.ArrayList;
import java.util.List;
import java.util.regex.Matcher;
import java.util.regex.Pattern;

/**
 * The document once more, as slowly and literally as it can be said: every day is lived by itself, every
 * what-if is lived on a copy, and texts are read by a regular expression.
 */
final class PlainModel {
    static final int NO_SUCH = -1, BAD_VALUE = -2, BAD_TEXT = -3, TOO_MANY = -4, NOT_POSSIBLE = -5, NONE = -6;

    private static final Pattern TEXT = Pattern.compile("ORDER(?:;ORDER)*".replace("ORDER",
        "(?:\\+[0-5][0-3][0-5]:(?:[0-9]|[12][0-9]|30)|w[0-9]|-[0-9]|p[0-9]:[1-9][0-9]?|o[0-9]|\\.[1-9][0-9]?)"));
    private static final int[][] RANGES = {{0, 20}, {0, 20}, {0, 90}, {0, 90}, {0, 9}, {0, 90}, {1, 30}, {0, 9}};

    private static final class Box {
        int customer, size, street, load, growth, nights, last = NONE, beside, put, charged;

        Box copy() {
            Box b = new Box();
            b.customer = customer;
            b.size = size;
            b.street = street;
            b.load = load;
            b.growth = growth;
            b.nights = nights;
            b.last = last;
            b.beside = beside;
            b.put = put;
            b.charged = charged;
            return b;
        }

        int holds() {
            return 20 + size * 20;
        }
    }

    private static final class World {
        int[] settings = {3, 2, 15, 10, 1, 25, 7, 2};
        int[] places = {2, 2, 2, 2, 2};
        int[] charged = new int[6], tipped = new int[6], fines = new int[6];
        List<Box> boxes = new ArrayList<>();
        int day, trips, beside;

        World copy() {
            World w = new World();
            w.settings = settings.clone();
            w.places = places.clone();
            w.charged = charged.clone();
            w.tipped = tipped.clone();
            w.fines = fines.clone();
            for (Box b : boxes) {
                w.boxes.add(b.copy());
            }
            w.day = day;
            w.trips = trips;
            w.beside = beside;
            return w;
        }

        void charge(Box b, int coins) {
            b.charged += coins;
            charged[b.customer] += coins;
        }

        void fine(Box b, int coins) {
            charge(b, coins);
            fines[b.customer] += coins;
        }

        int allCharged() {
            int sum = 0;
            for (int c : charged) {
                sum += c;
            }
            return sum;
        }

        void live() {
            day++;
            trips = 0;
            for (Box b : boxes) {
                charge(b, settings[0]);
                for (int size = 1; size <= b.size; size++) {
                    charge(b, settings[0]);
                }
                if (b.street != 5) {
                    if (b.last == NONE || b.last < day) {
                        fine(b, settings[2]);
                    }
                    if (b.nights == 0) {
                        fine(b, settings[3]);
                    } else {
                        b.nights--;
                    }
                }
                for (int unit = 0; unit < b.growth; unit++) {
                    if (b.load < b.holds()) {
                        b.load++;
                    } else {
                        b.beside++;
                        beside++;
                    }
                }
            }
        }

        int standIn(int street) {
            int n = 0;
            for (Box b : boxes) {
                n += b.street == street ? 1 : 0;
            }
            return n;
        }
    }

    private World now = new World();
    private final List<World> past = new ArrayList<>();
    private final World[] slots = new World[2];
    private String pad = "";

    private boolean out(int value, int low, int high) {
        return value < low || value > high;
    }

    private void record() {
        past.add(now.copy());
        if (past.size() > 6) {
            past.remove(0);
        }
    }

    private boolean none(int skip) {
        return skip < 0 || skip >= now.boxes.size();
    }

    int set(int setting, int value, boolean recorded) {
        if (out(setting, 0, 7) || out(value, RANGES[setting][0], RANGES[setting][1])) return BAD_VALUE;
        if (recorded) record();
        int previous = now.settings[setting];
        now.settings[setting] = value;
        return previous;
    }

    int places(int street, int places) {
        if (out(street, 0, 4)) return NO_SUCH;
        if (out(places, 1, 4)) return BAD_VALUE;
        record();
        int previous = now.places[street];
        now.places[street] = places;
        return previous;
    }

    int put(int customer, int size, int street, int growth, boolean recorded) {
        if (out(customer, 0, 5) || out(street, 0, 5)) return NO_SUCH;
        if (out(size, 0, 3) || out(growth, 0, 30)) return BAD_VALUE;
        if (street < 5 && now.standIn(street) >= now.places[street]) return NOT_POSSIBLE;
        if (now.trips >= now.settings[7]) return NOT_POSSIBLE;
        if (now.boxes.size() == 10) return TOO_MANY;
        if (recorded) record();
        Box b = new Box();
        b.customer = customer;
        b.size = size;
        b.street = street;
        b.growth = growth;
        b.nights = now.settings[6];
        b.put = now.day;
        now.boxes.add(b);
        now.trips++;
        now.charge(b, now.settings[5]);
        return now.boxes.size() - 1;
    }

    int swap(int skip, boolean recorded) {
        if (none(skip)) return NO_SUCH;
        if (now.trips >= now.settings[7]) return NOT_POSSIBLE;
        if (recorded) record();
        Box b = now.boxes.get(skip);
        now.trips++;
        now.charge(b, now.settings[5]);
        now.charge(b, now.settings[4] * b.load);
        now.tipped[b.customer] += b.load;
        int load = b.load;
        b.load = 0;
        return load;
    }

    int take(int skip, boolean recorded) {
        int load = swap(skip, recorded);
        if (load >= 0) now.boxes.remove(skip);
        return load;
    }

    int permit(int skip, int days, boolean recorded) {
        if (none(skip)) return NO_SUCH;
        if (out(days, 1, 99)) return BAD_VALUE;
        if (now.boxes.get(skip).street == 5) return NOT_POSSIBLE;
        if (recorded) record();
        Box b = now.boxes.get(skip);
        int first = b.last != NONE && b.last >= now.day ? b.last + 1 : now.day;
        for (int d = 0; d < days; d++) {
            b.last = first + d;
            now.charge(b, now.settings[1]);
        }
        return b.last;
    }

    int oil(int skip, boolean recorded) {
        if (none(skip)) return NO_SUCH;
        if (recorded) record();
        int previous = now.boxes.get(skip).nights;
        now.boxes.get(skip).nights = now.settings[6];
        return previous;
    }

    int growth(int skip, int growth) {
        if (none(skip)) return NO_SUCH;
        if (out(growth, 0, 30)) return BAD_VALUE;
        record();
        int previous = now.boxes.get(skip).growth;
        now.boxes.get(skip).growth = growth;
        return previous;
    }

    int pass(int days, boolean recorded) {
        if (out(days, 1, 99)) return BAD_VALUE;
        if (now.day + days > 9999) return TOO_MANY;
        if (recorded) record();
        int before = now.allCharged();
        for (int d = 0; d < days; d++) {
            now.live();
        }
        return now.allCharged() - before;
    }

    int run() {
        if (fault() != NONE) return BAD_TEXT;
        record();
        int done = 0;
        for (String order : pad.split(";")) {
            if (obey(order) >= 0) done++;
        }
        pad = "";
        return done;
    }

    private int obey(String order) {
        String rest = order.substring(1);
        switch (order.charAt(0)) {
            case '+': return put(rest.charAt(0) - '0', rest.charAt(1) - '0', rest.charAt(2) - '0',
                Integer.parseInt(rest.substring(4)), false);
            case 'w': return swap(Integer.parseInt(rest), false);
            case '-': return take(Integer.parseInt(rest), false);
            case 'p': return permit(rest.charAt(0) - '0', Integer.parseInt(rest.substring(2)), false);
            case 'o': return oil(Integer.parseInt(rest), false);
            default: return pass(Integer.parseInt(rest), false);
        }
    }

    int skip(int skip, int what) {
        if (none(skip)) return NO_SUCH;
        Box b = now.boxes.get(skip);
        int[] all = {b.customer, b.size, b.street, b.load, b.holds(), b.growth, b.nights, b.last, b.beside,
            now.day - b.put, b.charged};
        return out(what, 0, 10) ? BAD_VALUE : all[what];
    }

    int street(int street, int what) {
        if (out(street, 0, 4)) return NO_SUCH;
        int without = 0;
        for (Box b : now.boxes) {
            without += b.street == street && (b.last == NONE || b.last < now.day) ? 1 : 0;
        }
        int[] all = {now.places[street], now.standIn(street), without};
        return out(what, 0, 2) ? BAD_VALUE : all[what];
    }

    int customer(int customer, int what) {
        if (out(customer, 0, 5)) return NO_SUCH;
        int boxes = 0;
        for (Box b : now.boxes) {
            boxes += b.customer == customer ? 1 : 0;
        }
        int[] all = {now.charged[customer], boxes, now.tipped[customer], now.fines[customer]};
        return out(what, 0, 3) ? BAD_VALUE : all[what];
    }

    int count(int what) {
        if (out(what, 0, 18)) return BAD_VALUE;
        if (what < 8) return now.settings[what];
        int tipped = 0, fines = 0, loads = 0, full = 0;
        for (int c = 0; c < 6; c++) {
            tipped += now.tipped[c];
            fines += now.fines[c];
        }
        for (Box b : now.boxes) {
            loads += b.load;
            full += b.load == b.holds() ? 1 : 0;
        }
        int[] all = {now.day, now.boxes.size(), Math.max(0, now.settings[7] - now.trips), now.allCharged(), tipped,
            now.beside, fines, loads, full, pad.length(), past.size()};
        return all[what - 8];
    }

    int untilFull(int skip) {
        if (none(skip)) return NO_SUCH;
        World w = now.copy();
        for (int days = 0; days <= 1000; days++) {
            if (w.boxes.get(skip).load == w.boxes.get(skip).holds()) return days;
            w.live();
        }
        return NONE;
    }

    int untilFine(int skip) {
        if (none(skip)) return NO_SUCH;
        World w = now.copy();
        w.settings[2] = 1;
        w.settings[3] = 1;
        w.settings[0] = 0;
        for (int days = 1; days <= 1000; days++) {
            int before = w.boxes.get(skip).charged;
            w.live();
            if (w.boxes.get(skip).charged > before) return days;
        }
        return NONE;
    }

    int cost(int customer, int days) {
        if (out(customer, 0, 5)) return NO_SUCH;
        if (out(days, 0, 200)) return BAD_VALUE;
        World w = now.copy();
        for (int d = 0; d < days; d++) {
            w.live();
        }
        return w.charged[customer] - now.charged[customer];
    }

    int bestSwap(int skip, int days, int what) {
        if (none(skip)) return NO_SUCH;
        if (out(days, 1, 60) || out(what, 0, 1)) return BAD_VALUE;
        int best = -1, fewest = Integer.MAX_VALUE;
        for (int behind = 0; behind <= days; behind++) {
            World w = now.copy();
            for (int d = 0; d < days; d++) {
                if (d == behind) w.boxes.get(skip).load = 0;
                w.live();
            }
            int fallen = w.boxes.get(skip).beside - now.boxes.get(skip).beside;
            if (fallen <= fewest) {
                fewest = fallen;
                best = behind;
            }
        }
        return what == 0 ? best : fewest;
    }

    int dearest() {
        int best = NONE;
        for (int i = now.boxes.size() - 1; i >= 0; i--) {
            if (best == NONE || now.boxes.get(i).charged >= now.boxes.get(best).charged) best = i;
        }
        return best;
    }

    int write(long characters) {
        String text = "";
        for (int at = 7; at >= 0; at--) {
            int code = (int) (characters >>> 8 * at & 255);
            if (code == 0 && text.isEmpty()) continue;
            if (code < 33 || code > 126) return BAD_VALUE;
            text += (char) code;
        }
        if (text.isEmpty()) return BAD_VALUE;
        if (pad.length() + text.length() > 60) return TOO_MANY;
        pad += text;
        return pad.length();
    }

    int wipe() {
        int length = pad.length();
        pad = "";
        return length;
    }

    int fault() {
        for (int length = 1; length <= pad.length(); length++) {
            Matcher matcher = TEXT.matcher(pad.substring(0, length));
            if (!matcher.matches() && !matcher.hitEnd()) return length - 1;
        }
        return TEXT.matcher(pad).matches() ? NONE : pad.length();
    }

    int undo() {
        if (past.isEmpty()) return NOT_POSSIBLE;
        now = past.remove(past.size() - 1);
        return past.size();
    }

    int save(int slot) {
        if (out(slot, 0, 1)) return BAD_VALUE;
        slots[slot] = now.copy();
        return now.boxes.size();
    }

    int restore(int slot) {
        if (out(slot, 0, 1)) return BAD_VALUE;
        if (slots[slot] == null) return NOT_POSSIBLE;
        record();
        now = slots[slot].copy();
        return now.boxes.size();
    }
}
