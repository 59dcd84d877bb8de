import java.util.ArrayDeque;
import java.util.ArrayList;
import java.util.Comparator;
import java.util.List;
import java.util.TreeSet;
import java.util.regex.Matcher;
import java.util.regex.Pattern;

/** The document once more, written with the Java library and without care for room or speed. */
final class PlainModel {
    private static final int INVALID = -1;
    private static final int IMPOSSIBLE = -2;
    private static final int LIMIT = -3;
    private static final int NONE = -4;

    private static final String NUMBER = "([0-9]{1,4})";
    private static final Pattern COMMAND = Pattern.compile(
            "([tgpdv])" + NUMBER + "," + NUMBER + ";"
            + "|(o)" + NUMBER + "," + NUMBER + "," + NUMBER + ";"
            + "|(i)" + NUMBER + "," + NUMBER + ",(s|[0-9]{1,4})," + NUMBER + "," + NUMBER + ";");

    private static final class Person {
        int deposit;
        int from;
        Integer to;

        Person copy() {
            Person p = new Person();
            p.deposit = deposit;
            p.from = from;
            p.to = to;
            return p;
        }
    }

    private static final class Item {
        int value;
        int life;
        Integer owner;
        int condition;
        int month;
        Integer lastCondition;
        Integer lastMonth;
        TreeSet<Integer> proofs = new TreeSet<>();
        TreeSet<Integer> disputers = new TreeSet<>();
        int decided = 50;

        Item copy() {
            Item i = new Item();
            i.value = value;
            i.life = life;
            i.owner = owner;
            i.condition = condition;
            i.month = month;
            i.lastCondition = lastCondition;
            i.lastMonth = lastMonth;
            i.proofs = new TreeSet<>(proofs);
            i.disputers = new TreeSet<>(disputers);
            i.decided = decided;
            return i;
        }

        int age() {
            return lastMonth - month;
        }

        int fair() {
            return condition * Math.max(0, life - age()) / life;
        }

        int loss() {
            return lastMonth == null ? 0 : value * Math.max(0, fair() - lastCondition) / 10;
        }
    }

    private static final class State {
        List<Person> people = new ArrayList<>();
        List<Item> items = new ArrayList<>();
        int[] settings = {2, 3, 2, 3, 5};

        State copy() {
            State s = new State();
            for (Person p : people) {
                s.people.add(p.copy());
            }
            for (Item i : items) {
                s.items.add(i.copy());
            }
            s.settings = settings.clone();
            return s;
        }

        boolean noPerson(int number) {
            return number < 0 || number >= people.size();
        }

        boolean noItem(int number) {
            return number < 0 || number >= items.size();
        }

        int months(Item i, Person p) {
            if (i.lastMonth == null) {
                return 0;
            }
            int end = p.to == null ? i.lastMonth : Math.min(p.to, i.lastMonth);
            return Math.max(0, end - Math.max(p.from, i.month));
        }

        boolean hasShare(Item i, int person) {
            return i.owner == null ? months(i, people.get(person)) > 0 : i.owner == person;
        }

        int weight(Item i) {
            return i.proofs.stream().mapToInt(kind -> settings[kind]).sum();
        }

        int kept(Item i) {
            if (i.owner == null && people.stream().allMatch(p -> months(i, p) == 0)) {
                return 0;
            }
            if (i.disputers.isEmpty()) {
                return i.loss();
            }
            return weight(i) < settings[4] ? 0 : i.loss() * i.decided / 100;
        }

        /** What each of six tenants bears of a thing. */
        int[] shares(Item i) {
            int[] shares = new int[6];
            if (i.owner != null) {
                shares[i.owner] = kept(i);
                return shares;
            }
            int all = people.stream().mapToInt(p -> months(i, p)).sum();
            int left = kept(i);
            for (int p = 0; all > 0 && p < people.size(); p++) {
                shares[p] = kept(i) * months(i, people.get(p)) / all;
                left -= shares[p];
            }
            for (int p = 0; p < people.size(); p++) {
                if (left > 0 && months(i, people.get(p)) > 0) {
                    shares[p]++;
                    left--;
                }
            }
            return shares;
        }

        int borne(int person) {
            return items.stream().mapToInt(i -> shares(i)[person]).sum();
        }

        boolean canDispute(Item i, int person) {
            return !i.disputers.contains(person) && i.loss() > 0 && hasShare(i, person);
        }
    }

    private State state = new State();
    private final ArrayDeque<State> history = new ArrayDeque<>();
    private String text = "";

    private static boolean out(int number, int least, int most) {
        return number < least || number > most;
    }

    private static int bits(Iterable<Integer> set) {
        int bits = 0;
        for (int one : set) {
            bits += 1 << one;
        }
        return bits;
    }

    private void record(State before) {
        history.addLast(before);
        if (history.size() == 5) {
            history.removeFirst();
        }
    }

    /** Makes a change by the letter of its command, or "a" for agree and "=" for set. */
    int change(char letter, int... n) {
        State before = state.copy();
        int answer = apply(state, letter, n);
        if (answer >= 0) {
            record(before);
        }
        return answer;
    }

    private static int apply(State s, char letter, int... n) {
        switch (letter) {
            case 't': return come(s, n[0], n[1]);
            case 'g': return go(s, n[0], n[1]);
            case 'i': return add(s, n);
            case 'o': return look(s, n[0], n[1], n[2]);
            case 'p': return prove(s, n[0], n[1]);
            case 'd': return dispute(s, n[0], n[1]);
            case 'a': return agree(s, n[0], n[1]);
            case 'v': return decide(s, n[0], n[1]);
            default: return set(s, n[0], n[1]);
        }
    }

    private static int come(State s, int deposit, int month) {
        if (out(deposit, 0, 9999) || out(month, 0, 240)) {
            return INVALID;
        }
        if (s.people.size() == 6) {
            return LIMIT;
        }
        Person p = new Person();
        p.deposit = deposit;
        p.from = month;
        s.people.add(p);
        return s.people.size() - 1;
    }

    private static int go(State s, int person, int month) {
        if (s.noPerson(person) || out(month, 0, 240)) {
            return INVALID;
        }
        Person p = s.people.get(person);
        if (p.to != null || p.from > month) {
            return IMPOSSIBLE;
        }
        p.to = month;
        return month - p.from;
    }

    private static int add(State s, int[] n) {
        if (out(n[0], 1, 999) || out(n[1], 1, 120) || n[2] != -1 && s.noPerson(n[2])
                || out(n[3], 0, 10) || out(n[4], 0, 240)) {
            return INVALID;
        }
        if (s.items.size() == 12) {
            return LIMIT;
        }
        Item i = new Item();
        i.value = n[0];
        i.life = n[1];
        i.owner = n[2] == -1 ? null : n[2];
        i.condition = n[3];
        i.month = n[4];
        s.items.add(i);
        return s.items.size() - 1;
    }

    private static int look(State s, int item, int condition, int month) {
        if (s.noItem(item) || out(condition, 0, 10) || out(month, 0, 240)) {
            return INVALID;
        }
        Item i = s.items.get(item);
        if (i.lastMonth != null || i.month > month) {
            return IMPOSSIBLE;
        }
        i.lastCondition = condition;
        i.lastMonth = month;
        return i.loss();
    }

    private static int prove(State s, int item, int kind) {
        if (s.noItem(item) || out(kind, 0, 3)) {
            return INVALID;
        }
        return s.items.get(item).proofs.add(kind) ? s.weight(s.items.get(item)) : IMPOSSIBLE;
    }

    private static int dispute(State s, int item, int person) {
        if (s.noItem(item) || s.noPerson(person)) {
            return INVALID;
        }
        Item i = s.items.get(item);
        if (!s.canDispute(i, person)) {
            return IMPOSSIBLE;
        }
        i.disputers.add(person);
        return s.kept(i);
    }

    private static int agree(State s, int item, int person) {
        if (s.noItem(item) || s.noPerson(person)) {
            return INVALID;
        }
        Item i = s.items.get(item);
        return i.disputers.remove(person) ? s.kept(i) : IMPOSSIBLE;
    }

    private static int decide(State s, int item, int hundredths) {
        if (s.noItem(item) || out(hundredths, 0, 100)) {
            return INVALID;
        }
        Item i = s.items.get(item);
        if (i.disputers.isEmpty()) {
            return IMPOSSIBLE;
        }
        i.decided = hundredths;
        return s.kept(i);
    }

    private static int set(State s, int what, int value) {
        if (out(what, 0, 4) || out(value, 0, what == 4 ? 80 : 20)) {
            return INVALID;
        }
        int before = s.settings[what];
        s.settings[what] = value;
        return before;
    }

    int tenantOf(int person, int what) {
        if (state.noPerson(person) || out(what, 0, 8)) {
            return INVALID;
        }
        Person p = state.people.get(person);
        int borne = state.borne(person);
        List<Integer> shared = new ArrayList<>();
        List<Integer> disputed = new ArrayList<>();
        for (int i = 0; i < state.items.size(); i++) {
            if (state.hasShare(state.items.get(i), person)) {
                shared.add(i);
            }
            if (state.items.get(i).disputers.contains(person)) {
                disputed.add(i);
            }
        }
        int kept = Math.min(borne, p.deposit);
        int[] all = {p.deposit, p.from, p.to == null ? NONE : p.to, borne, kept, p.deposit - kept,
            borne - kept, bits(shared), bits(disputed)};
        return all[what];
    }

    int thingOf(int item, int what) {
        if (state.noItem(item) || out(what, 0, 14)) {
            return INVALID;
        }
        Item i = state.items.get(item);
        boolean seen = i.lastMonth != null;
        int[] all = {i.value, i.life, i.owner == null ? NONE : i.owner, i.condition, i.month,
            seen ? i.lastCondition : NONE, seen ? i.lastMonth : NONE, seen ? i.age() : NONE,
            seen ? i.fair() : NONE, seen ? i.loss() : NONE, bits(i.proofs), state.weight(i),
            bits(i.disputers), i.decided, state.kept(i)};
        return all[what];
    }

    int shareOf(int item, int person, int what) {
        if (state.noItem(item) || state.noPerson(person) || out(what, 0, 1)) {
            return INVALID;
        }
        Item i = state.items.get(item);
        return what == 0 ? state.shares(i)[person] : state.months(i, state.people.get(person));
    }

    int orderAt(int order, int place) {
        if (out(order, 0, 2) || place < 0) {
            return INVALID;
        }
        List<Integer> numbers = new ArrayList<>();
        for (int i = 0; i < state.items.size(); i++) {
            numbers.add(i);
        }
        numbers.sort(Comparator.comparingInt(n -> {
            Item i = state.items.get(n);
            return order == 0 ? -state.kept(i) : order == 1 ? -i.loss() : i.value;
        }));
        return place < numbers.size() ? numbers.get(place) : NONE;
    }

    int count(int what) {
        if (what >= 20 && what <= 24) {
            return state.settings[what - 20];
        }
        int people = state.people.size();
        int sum = 0;
        switch (what) {
            case 0: return people;
            case 1: return (int) state.people.stream().filter(p -> p.to != null).count();
            case 2: return state.items.size();
            case 3: return (int) state.items.stream().filter(i -> i.lastMonth != null).count();
            case 4: return state.items.stream().mapToInt(Item::loss).sum();
            case 5: return state.items.stream().mapToInt(i -> state.kept(i)).sum();
            case 6: return state.people.stream().mapToInt(p -> p.deposit).sum();
            case 7: case 8:
                for (int p = 0; p < people; p++) {
                    sum += tenantOf(p, what - 2);
                }
                return sum;
            case 9: return state.items.stream().mapToInt(i -> i.disputers.size()).sum();
            case 10: return (int) state.items.stream().filter(i -> !i.disputers.isEmpty()
                    && state.weight(i) < state.settings[4]).count();
            case 11: return history.size();
            case 12: return text.length();
            default: return INVALID;
        }
    }

    int wouldProve(int item, int kind) {
        if (state.noItem(item) || out(kind, 0, 3)) {
            return INVALID;
        }
        State other = state.copy();
        other.items.get(item).proofs.add(kind);
        return other.kept(other.items.get(item)) - state.kept(state.items.get(item));
    }

    int bestProof(int what) {
        if (out(what, 0, 2)) {
            return INVALID;
        }
        int[] best = {NONE, NONE, NONE};
        for (int item = 0; item < state.items.size(); item++) {
            for (int kind = 0; kind < 4; kind++) {
                int more = wouldProve(item, kind);
                if (more > Math.max(0, best[2])) {
                    best = new int[] {item, kind, more};
                }
            }
        }
        return best[what];
    }

    int wouldSave(int person) {
        if (state.noPerson(person)) {
            return INVALID;
        }
        State other = state.copy();
        for (int i = 0; i < state.items.size(); i++) {
            if (state.canDispute(state.items.get(i), person)) {
                other.items.get(i).disputers.add(person);
            }
        }
        return Math.max(0, state.borne(person) - other.borne(person));
    }

    int keptBits() {
        float all = count(6);
        return all == 0 ? NONE : Float.floatToIntBits((float) (count(6) - count(7)) / all);
    }

    int careBits() {
        int sum = 0;
        for (Item i : state.items) {
            if (i.lastMonth != null) {
                sum += i.lastCondition - i.fair();
            }
        }
        return count(3) == 0 ? NONE : Float.floatToIntBits((float) sum / (float) count(3));
    }

    int undo() {
        if (history.isEmpty()) {
            return IMPOSSIBLE;
        }
        state = history.removeLast();
        return history.size();
    }

    int type(int character) {
        if (out(character, 32, 126)) {
            return INVALID;
        }
        if (text.length() == 80) {
            return LIMIT;
        }
        text += (char) character;
        return text.length();
    }

    int clearText() {
        int before = text.length();
        text = "";
        return before;
    }

    /** Does the commands on a state: {position, reason} of the fault, or {NONE, the commands}. */
    private int[] run(State s) {
        Matcher m = COMMAND.matcher(text);
        int at = 0;
        int commands = 0;
        while (at < text.length()) {
            if (!m.find(at) || m.start() != at) {
                return new int[] {at, 1};
            }
            String[] parts = m.group().replace(";", "").substring(1).split(",");
            int[] n = new int[parts.length];
            for (int i = 0; i < n.length; i++) {
                n[i] = parts[i].equals("s") ? -1 : Integer.parseInt(parts[i]);
            }
            int answer = apply(s, m.group().charAt(0), n);
            if (answer < 0) {
                return new int[] {at, answer == INVALID ? 2 : 3};
            }
            at = m.end();
            commands++;
        }
        return new int[] {NONE, commands};
    }

    int fault(int what) {
        if (out(what, 0, 1)) {
            return INVALID;
        }
        int[] fault = run(state.copy());
        return fault[0] == NONE ? NONE : fault[what];
    }

    int play() {
        State next = state.copy();
        int[] fault = run(next);
        if (fault[0] != NONE) {
            return IMPOSSIBLE;
        }
        record(state);
        state = next;
        return fault[1];
    }
}
