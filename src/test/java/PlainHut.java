import java.util.ArrayList;
import java.util.List;
import java.util.Map;
import java.util.TreeMap;
import java.util.regex.Matcher;
import java.util.regex.Pattern;

/**
 * The document once more, in another way: each loaf is a number of its own (the day on which it was
 * baked), states are copied whole, orders are read by a pattern. RandomRunsTest compares both.
 */
final class PlainHut {
    static final int INVALID = Checks.INVALID;
    static final int IMPOSSIBLE = Checks.IMPOSSIBLE;
    static final int LIMIT = Checks.LIMIT;
    static final int MISSING = Checks.MISSING;

    private static final Pattern ORDER =
        Pattern.compile("s\\d{1,3},\\d{1,3};|g\\d{1,3},\\d{1,3},\\d{1,3};|[xpd]\\d{1,3};");

    private static final class Beast {
        int load;
        int strength;
        String where = "home";
        int left;
        List<Integer> bags = new ArrayList<>();
        int sent;
        int came;
        int lame;

        Beast copy() {
            Beast b = new Beast();
            b.load = load;
            b.strength = strength;
            b.where = where;
            b.left = left;
            b.bags = new ArrayList<>(bags);
            b.sent = sent;
            b.came = came;
            b.lame = lame;
            return b;
        }
    }

    private static final class Party {
        int persons;
        int from;
        int nights;
        int paid;
        int hungry;

        Party copy() {
            Party p = new Party();
            p.persons = persons;
            p.from = from;
            p.nights = nights;
            p.paid = paid;
            p.hungry = hungry;
            return p;
        }

        boolean there(int day) {
            return from <= day && day <= from + nights - 1;
        }

        int wants() {
            return persons % 2 == 0 ? persons / 2 : persons / 2 + 1;
        }
    }

    private static final class State {
        List<Beast> beasts = new ArrayList<>();
        TreeMap<Integer, Party> parties = new TreeMap<>();
        List<Integer> bread = new ArrayList<>();
        int[] settings = {2, 100, 3, 10};
        int[] so = new int[18];
        int day;
        int x = 1;
        int everBooked;

        State copy() {
            State s = new State();
            for (Beast b : beasts) {
                s.beasts.add(b.copy());
            }
            for (Map.Entry<Integer, Party> e : parties.entrySet()) {
                s.parties.put(e.getKey(), e.getValue().copy());
            }
            s.bread = new ArrayList<>(bread);
            s.settings = settings.clone();
            s.so = so.clone();
            s.day = day;
            s.x = x;
            s.everBooked = everBooked;
            return s;
        }
    }

    private State s = new State();
    private final List<State> past = new ArrayList<>();
    private String text = "";

    private void record(State before) {
        past.add(before);
        if (past.size() > 4) {
            past.remove(0);
        }
    }

    private static boolean in(int value, int low, int high) {
        return low <= value && value <= high;
    }

    int call(String name, int a, int b, int c) {
        State before = s.copy();
        int answer = change(name, a, b, c);
        if (answer >= 0) {
            record(before);
        }
        return answer;
    }

    private int change(String name, int a, int b, int c) {
        switch (name) {
            case "mule":
                if (!in(a, 1, 30) || !in(b, 1, 9)) {
                    return INVALID;
                }
                if (s.beasts.size() == 4) {
                    return LIMIT;
                }
                Beast born = new Beast();
                born.load = a;
                born.strength = b;
                s.beasts.add(born);
                return s.beasts.size() - 1;
            case "send":
                int reason = why(a, b);
                if (reason != 0) {
                    return reason == INVALID ? INVALID : IMPOSSIBLE;
                }
                Beast goes = s.beasts.get(a);
                goes.where = "up";
                goes.left = 2;
                goes.sent += 1;
                for (int k = 0; k < b; k++) {
                    goes.bags.add(s.day);
                    s.so[10] += 1;
                    s.so[6] += s.settings[0];
                }
                return s.so[6];
            case "rest":
                if (!in(a, 0, s.beasts.size() - 1)) {
                    return INVALID;
                }
                if (!s.beasts.get(a).where.equals("home")) {
                    return IMPOSSIBLE;
                }
                int often = s.beasts.get(a).sent;
                s.beasts.get(a).sent = 0;
                return often;
            case "pay":
                if (!in(a, 1, 500)) {
                    return INVALID;
                }
                if (s.so[5] < a || s.so[6] < a) {
                    return IMPOSSIBLE;
                }
                s.so[5] -= a;
                s.so[6] -= a;
                s.so[17] += a;
                return s.so[6];
            case "group":
                if (!in(a, 1, 12) || !in(b, 0, 60) || !in(c, 1, 9)) {
                    return INVALID;
                }
                if (s.parties.size() == 10) {
                    return LIMIT;
                }
                Party party = new Party();
                party.persons = a;
                party.from = s.day + b;
                party.nights = c;
                s.parties.put(s.everBooked, party);
                return s.everBooked++;
            case "off":
                return s.parties.remove(a) == null ? INVALID : s.parties.size();
            case "end":
                if (!in(a, 1, 60)) {
                    return INVALID;
                }
                if (s.day + a > 9999) {
                    return LIMIT;
                }
                int ate = s.so[11];
                for (int k = 0; k < a; k++) {
                    day(s);
                }
                return s.so[11] - ate;
            case "set":
                int[] low = {1, 10, 0, 0};
                int[] high = {9, 500, 15, 90};
                if (!in(a, 0, 3) || !in(b, low[a], high[a])) {
                    return INVALID;
                }
                int was = s.settings[a];
                s.settings[a] = b;
                return was;
            default:
                throw new IllegalArgumentException(name);
        }
    }

    private static void day(State s) {
        s.x = (s.x * 421 + 1663) % 10000;
        boolean snow = s.x % 100 < s.settings[3];
        s.so[14] += snow ? 1 : 0;
        for (Beast b : s.beasts) {
            boolean walks = b.where.equals("up") || b.where.equals("down");
            if (b.where.equals("home") || walks && snow) {
                continue;
            }
            b.left -= 1;
            if (b.left > 0) {
                continue;
            }
            if (b.where.equals("up")) {
                b.where = "down";
                b.left = 2;
                for (int baked : b.bags) {
                    b.came += 1;
                    if (s.day - baked > 20) {
                        s.so[12] += 1;
                    } else if (s.bread.size() == 80) {
                        s.so[13] += 1;
                    } else {
                        s.bread.add(baked);
                    }
                }
                b.bags.clear();
            } else if (b.where.equals("down")) {
                boolean spent = b.sent >= b.strength;
                b.where = spent ? "lame" : "home";
                b.left = spent ? 5 : 0;
                b.lame += spent ? 1 : 0;
            } else {
                b.where = "home";
                b.sent = 0;
            }
        }
        s.bread.sort(null);
        for (Party p : s.parties.values()) {
            if (p.there(s.day)) {
                eat(s, p);
            }
        }
        s.day += 1;
        for (int k = s.bread.size() - 1; k >= 0; k--) {
            if (s.day - s.bread.get(k) > 20) {
                s.bread.remove(k);
                s.so[12] += 1;
            }
        }
        List<Integer> over = new ArrayList<>();
        for (Map.Entry<Integer, Party> e : s.parties.entrySet()) {
            if (e.getValue().from + e.getValue().nights == s.day) {
                over.add(e.getKey());
            }
        }
        for (Integer number : over) {
            s.parties.remove(number);
        }
    }

    private static boolean stale(State s, int baked) {
        return s.day - baked > s.settings[2];
    }

    private static void eat(State s, Party p) {
        boolean soup = false;
        boolean hungry = false;
        for (int k = 0; k < p.wants(); k++) {
            int fresh = -1;
            for (int j = s.bread.size() - 1; j >= 0; j--) {
                if (!stale(s, s.bread.get(j))) {
                    fresh = j;
                }
            }
            if (fresh >= 0) {
                s.bread.remove(fresh);
                s.so[11] += 1;
            } else if (s.bread.size() >= 2) {
                s.bread.remove(0);
                s.bread.remove(0);
                s.so[11] += 2;
                soup = true;
            } else {
                hungry = true;
            }
        }
        int each = hungry ? 1 : soup ? 2 : 3;
        p.hungry += hungry ? 1 : 0;
        s.so[15] += hungry ? 1 : 0;
        p.paid += each * p.persons;
        s.so[16] += each * p.persons;
        s.so[5] += each * p.persons;
    }

    int muleOf(int mule, int what) {
        if (!in(mule, 0, s.beasts.size() - 1) || !in(what, 0, 7)) {
            return INVALID;
        }
        Beast b = s.beasts.get(mule);
        int where = List.of("home", "up", "down", "lame").indexOf(b.where);
        return new int[] {b.load, b.strength, where, b.left, b.bags.size(), b.sent, b.came, b.lame}[what];
    }

    int groupOf(int group, int what) {
        Party p = s.parties.get(group);
        if (p == null || !in(what, 0, 6)) {
            return INVALID;
        }
        return new int[] {p.persons, p.from, p.nights, p.wants(), p.there(s.day) ? 1 : 0, p.paid, p.hungry}[what];
    }

    int number(int index) {
        if (index < 0) {
            return INVALID;
        }
        List<Integer> numbers = new ArrayList<>(s.parties.keySet());
        return index < numbers.size() ? numbers.get(index) : MISSING;
    }

    int loaves(int age) {
        if (!in(age, 0, 20)) {
            return INVALID;
        }
        int many = 0;
        for (int baked : s.bread) {
            many += s.day - baked == age ? 1 : 0;
        }
        return many;
    }

    int why(int mule, int loaves) {
        if (!in(mule, 0, s.beasts.size() - 1) || !in(loaves, 1, 30)) {
            return INVALID;
        }
        Beast b = s.beasts.get(mule);
        if (!b.where.equals("home")) {
            return 1;
        }
        if (b.load < loaves) {
            return 2;
        }
        return s.so[6] + loaves * s.settings[0] > s.settings[1] ? 3 : 0;
    }

    int wanted(int days) {
        if (!in(days, 0, 60)) {
            return INVALID;
        }
        int loaves = 0;
        for (Party p : s.parties.values()) {
            loaves += p.there(s.day + days) ? p.wants() : 0;
        }
        return loaves;
    }

    int hungry() {
        State t = s.copy();
        for (int k = 1; k <= 60; k++) {
            int before = t.so[15];
            day(t);
            if (t.so[15] != before) {
                return k;
            }
        }
        return MISSING;
    }

    int next(int what) {
        if (what != 0 && what != 1) {
            return INVALID;
        }
        int best = MISSING;
        for (int k = s.beasts.size() - 1; k >= 0; k--) {
            Beast b = s.beasts.get(k);
            if (!b.where.equals("home")) {
                continue;
            }
            Beast o = best == MISSING ? null : s.beasts.get(best);
            if (o == null || b.load > o.load || b.load == o.load && b.sent <= o.sent) {
                best = k;
            }
        }
        if (what == 0 || best == MISSING) {
            return best;
        }
        int most = 0;
        for (int loaves = 1; loaves <= 30; loaves++) {
            if (why(best, loaves) == 0) {
                most = loaves;
            }
        }
        return most;
    }

    int would(int days, int what) {
        if (!in(days, 1, 60) || !in(what, 0, 3)) {
            return INVALID;
        }
        State t = s.copy();
        for (int k = 0; k < days; k++) {
            day(t);
        }
        int wasted = t.so[12] + t.so[13] - s.so[12] - s.so[13];
        return new int[] {t.so[11] - s.so[11], t.so[5], t.bread.size(), wasted}[what];
    }

    int mean() {
        if (s.bread.isEmpty()) {
            return MISSING;
        }
        int ages = 0;
        for (int baked : s.bread) {
            ages += s.day - baked;
        }
        return Float.floatToIntBits((float) ages / (float) s.bread.size());
    }

    int count(int what) {
        if (!in(what, 0, 23)) {
            return INVALID;
        }
        int stale = 0;
        for (int baked : s.bread) {
            stale += stale(s, baked) ? 1 : 0;
        }
        int up = 0;
        for (Beast b : s.beasts) {
            up += b.bags.size();
        }
        switch (what) {
            case 0:
                return s.beasts.size();
            case 1:
                return s.parties.size();
            case 2:
                return s.everBooked;
            case 3:
                return s.day;
            case 4:
                return s.x;
            case 7:
                return s.bread.size();
            case 8:
                return stale;
            case 9:
                return up;
            case 18:
                return past.size();
            case 19:
                return text.length();
            default:
                return what >= 20 ? s.settings[what - 20] : s.so[what];
        }
    }

    int undo() {
        if (past.isEmpty()) {
            return IMPOSSIBLE;
        }
        s = past.remove(past.size() - 1);
        return past.size();
    }

    int type(int character) {
        if (!in(character, 32, 126)) {
            return INVALID;
        }
        if (text.length() == 60) {
            return LIMIT;
        }
        text += (char) character;
        return text.length();
    }

    int clearText() {
        int had = text.length();
        text = "";
        return had;
    }

    int fault(int what) {
        if (!in(what, 0, 2)) {
            return INVALID;
        }
        State before = s.copy();
        int[] found = run();
        s = before;
        return found.length == 3 ? found[what] : MISSING;
    }

    int play() {
        State before = s.copy();
        int[] found = run();
        if (found.length == 3) {
            s = before;
            return IMPOSSIBLE;
        }
        record(before);
        return found[0];
    }

    /** Does the orders: the fault's position, reason and cause, or the number of orders alone. */
    private int[] run() {
        int at = 0;
        int done = 0;
        while (at < text.length()) {
            String rest = text.substring(at);
            Matcher m = ORDER.matcher(rest);
            if (!m.lookingAt()) {
                int good = 0;
                while (good < rest.length() && couldBegin(rest.substring(0, good + 1))) {
                    good++;
                }
                return new int[] {at, 1, good};
            }
            String[] parts = rest.substring(1, m.end() - 1).split(",");
            int[] n = new int[3];
            for (int k = 0; k < parts.length; k++) {
                n[k] = Integer.parseInt(parts[k]);
            }
            String name = Map.of('s', "send", 'g', "group", 'x', "off", 'p', "pay", 'd', "end").get(rest.charAt(0));
            int answer = change(name, n[0], n[1], n[2]);
            if (answer < 0) {
                return new int[] {at, 2, answer};
            }
            done++;
            at += m.end();
        }
        return new int[] {done};
    }

    private static boolean couldBegin(String part) {
        Matcher m = ORDER.matcher(part);
        return m.matches() || m.hitEnd();
    }
}
