import java.util.ArrayDeque;
import java.util.ArrayList;
import java.util.Arrays;
import java.util.Deque;
import java.util.HashSet;
import java.util.List;
import java.util.Map;
import java.util.Set;
import java.util.TreeMap;
import java.util.TreeSet;

/**
 * The document told a second time, as plainly as it can be, to be compared with RoofOrdinances.
 * It shares no code with it: roofs are rows and places, lines are objects, texts are split.
 */
final class CityModel {
    private static final int BAD = -1;
    private static final int IMPOSSIBLE = -2;
    private static final int FULL = -3;
    private static final int MISSING = -4;
    private static final int[] ROW_STEP = {0, 1, 0, -1};
    private static final int[] PLACE_STEP = {1, 0, -1, 0};
    private static final Set<String> PARTS = allParts();

    /** A line of laundry. */
    private static final class Line {
        final int owner;
        int soot;
        int spots;

        Line(int owner) {
            this.owner = owner;
        }
    }

    /** An owner. */
    private static final class Person {
        int weight = 3;
        Set<Integer> keys = new TreeSet<>();
        boolean truce;
        int at;
        int walked;
    }

    /** What is undone and restored. */
    private static final class State {
        Map<Integer, Integer> strength = new TreeMap<>();
        Map<Integer, Line> lines = new TreeMap<>();
        Set<Integer> chimneys = new TreeSet<>();
        Set<Integer> coops = new TreeSet<>();
        List<Person> people = new ArrayList<>();
        int wind;
        int reach = 2;
        int day;
        int lot = 1;
        int hung;
        int taken;
        int fallen;
        int refused;

        State copy() {
            State twin = new State();
            twin.strength.putAll(strength);
            for (Map.Entry<Integer, Line> entry : lines.entrySet()) {
                Line line = new Line(entry.getValue().owner);
                line.soot = entry.getValue().soot;
                line.spots = entry.getValue().spots;
                twin.lines.put(entry.getKey(), line);
            }
            twin.chimneys.addAll(chimneys);
            twin.coops.addAll(coops);
            for (Person person : people) {
                Person other = new Person();
                other.weight = person.weight;
                other.keys.addAll(person.keys);
                other.truce = person.truce;
                other.at = person.at;
                other.walked = person.walked;
                twin.people.add(other);
            }
            twin.wind = wind;
            twin.reach = reach;
            twin.day = day;
            twin.lot = lot;
            twin.hung = hung;
            twin.taken = taken;
            twin.fallen = fallen;
            twin.refused = refused;
            return twin;
        }
    }

    private State now = new State();
    private final Deque<State> past = new ArrayDeque<>();
    private State kept;
    private String text = "";
    private int[] stop;

    CityModel() {
        for (int gangway = 0; gangway < 32; gangway++) {
            if (ends(gangway) != null) {
                now.strength.put(gangway, 5);
            }
        }
        for (int owner = 0; owner < 4; owner++) {
            Person person = new Person();
            person.at = 5 * owner;
            for (int roof = 0; roof < 16; roof++) {
                person.keys.add(roof);
            }
            now.people.add(person);
        }
    }

    // The two roofs of a gangway, or null if the number is none.
    private static int[] ends(int gangway) {
        if (gangway < 0 || gangway > 31) {
            return null;
        }
        int roof = gangway % 16;
        boolean across = gangway >= 16;
        if (across ? roof / 4 == 3 : roof % 4 == 3) {
            return null;
        }
        return new int[] {roof, across ? roof + 4 : roof + 1};
    }

    private static Set<String> allParts() {
        Set<String> parts = new HashSet<>();
        for (int owner = 0; owner < 4; owner++) {
            for (int gangway = 0; gangway < 32; gangway++) {
                if (ends(gangway) != null) {
                    for (String letter : List.of("h", "t", "w")) {
                        parts.add(letter + owner + ":" + gangway);
                    }
                }
            }
        }
        for (int roof = 0; roof < 16; roof++) {
            parts.add("c" + roof);
        }
        parts.add("d");
        return parts;
    }

    private static boolean roofOk(int roof) {
        return roof >= 0 && roof <= 15;
    }

    private static boolean ownerOk(int owner) {
        return owner >= 0 && owner <= 3;
    }

    private static Set<Integer> neighbours(int roof) {
        Set<Integer> found = new TreeSet<>();
        for (int other = 0; other < 16; other++) {
            if (Math.abs(other / 4 - roof / 4) + Math.abs(other % 4 - roof % 4) == 1) {
                found.add(other);
            }
        }
        return found;
    }

    private static Set<Integer> plume(State state, int chimney, int wind) {
        Set<Integer> roofs = new TreeSet<>();
        for (int step = 0; step <= state.reach; step++) {
            int row = chimney / 4 + step * ROW_STEP[wind];
            int place = chimney % 4 + step * PLACE_STEP[wind];
            if (row >= 0 && row < 4 && place >= 0 && place < 4) {
                roofs.add(4 * row + place);
            }
        }
        return roofs;
    }

    private static Set<Integer> smoke(State state, int wind) {
        Set<Integer> roofs = new TreeSet<>();
        for (int chimney : state.chimneys) {
            roofs.addAll(plume(state, chimney, wind));
        }
        return roofs;
    }

    private static int smokedEnds(State state, int gangway, int wind) {
        Set<Integer> smoke = smoke(state, wind);
        int[] ends = ends(gangway);
        return (smoke.contains(ends[0]) ? 1 : 0) + (smoke.contains(ends[1]) ? 1 : 0);
    }

    private static int bits(Set<Integer> set) {
        int sum = 0;
        for (int number : set) {
            sum += 1 << number;
        }
        return sum;
    }

    private static int clean(State state) {
        int number = 0;
        for (Line line : state.lines.values()) {
            number += line.soot + line.spots == 0 ? 1 : 0;
        }
        return number;
    }

    private static int sooty(State state) {
        int sum = 0;
        for (Line line : state.lines.values()) {
            sum += line.soot;
        }
        return sum;
    }

    private static int spotty(State state) {
        int sum = 0;
        for (Line line : state.lines.values()) {
            sum += line.spots;
        }
        return sum;
    }

    private static int smokedLines(State state, int wind) {
        int number = 0;
        for (int gangway : state.lines.keySet()) {
            number += smokedEnds(state, gangway, wind) > 0 ? 1 : 0;
        }
        return number;
    }

    private void change() {
        past.push(now.copy());
        while (past.size() > 4) {
            past.removeLast();
        }
    }

    int bears(int gangway, int much) {
        if (ends(gangway) == null || much < 0 || much > 9) {
            return BAD;
        }
        change();
        if (much == 0 && now.lines.remove(gangway) != null) {
            now.fallen++;
        }
        return now.strength.put(gangway, much);
    }

    int wind(int to) {
        if (to < 0 || to > 3) {
            return BAD;
        }
        change();
        int before = now.wind;
        now.wind = to;
        return before;
    }

    int chimney(int roof) {
        if (!roofOk(roof)) {
            return BAD;
        }
        change();
        flip(now.chimneys, roof);
        return smoke(now, now.wind).size();
    }

    private static void flip(Set<Integer> set, int number) {
        if (!set.remove(number)) {
            set.add(number);
        }
    }

    int coop(int roof) {
        if (!roofOk(roof)) {
            return BAD;
        }
        change();
        flip(now.coops, roof);
        return now.coops.size();
    }

    int owner(int owner, int weight, int keys, boolean truce) {
        if (!ownerOk(owner) || weight < 1 || weight > 9 || keys < 0 || keys > 65535) {
            return BAD;
        }
        change();
        Person person = now.people.get(owner);
        int before = person.weight;
        person.weight = weight;
        person.truce = truce;
        person.keys.clear();
        for (int roof = 0; roof < 16; roof++) {
            if (keys / (1 << roof) % 2 == 1) {
                person.keys.add(roof);
            }
        }
        return before;
    }

    int reach(int roofs) {
        if (roofs < 0 || roofs > 3) {
            return BAD;
        }
        change();
        int before = now.reach;
        now.reach = roofs;
        return before;
    }

    int hang(int owner, int gangway) {
        if (!ownerOk(owner) || ends(gangway) == null) {
            return BAD;
        }
        change();
        return doHang(owner, gangway);
    }

    private int doHang(int owner, int gangway) {
        int reason = whyNotHang(owner, gangway);
        if (reason > 0) {
            now.refused++;
            return reason;
        }
        now.lines.put(gangway, new Line(owner));
        now.hung++;
        return 10 + now.lines.size();
    }

    int take(int owner, int gangway) {
        if (!ownerOk(owner) || ends(gangway) == null) {
            return BAD;
        }
        change();
        return doTake(owner, gangway);
    }

    private int doTake(int owner, int gangway) {
        Line line = now.lines.get(gangway);
        if (line == null || line.owner != owner) {
            now.refused++;
            return line == null ? 6 : 7;
        }
        now.lines.remove(gangway);
        now.taken++;
        return 10 + line.soot + line.spots;
    }

    int walk(int owner, int gangway) {
        if (!ownerOk(owner) || ends(gangway) == null) {
            return BAD;
        }
        if (farEnd(gangway, now.people.get(owner).at) < 0) {
            return IMPOSSIBLE;
        }
        change();
        return doWalk(owner, gangway);
    }

    private int doWalk(int owner, int gangway) {
        Person person = now.people.get(owner);
        int to = farEnd(gangway, person.at);
        if (to < 0) {
            return IMPOSSIBLE;
        }
        int reason = whyNotWalk(owner, gangway, to);
        if (reason > 0) {
            now.refused++;
            return reason;
        }
        person.at = to;
        person.walked++;
        return 10 + to;
    }

    private static int farEnd(int gangway, int roof) {
        int[] ends = ends(gangway);
        return ends[0] == roof ? ends[1] : ends[1] == roof ? ends[0] : -1;
    }

    private int whyNotWalk(int owner, int gangway, int to) {
        Person person = now.people.get(owner);
        Line line = now.lines.get(gangway);
        if (now.strength.get(gangway) == 0) {
            return 1;
        }
        if (now.strength.get(gangway) < person.weight) {
            return 8;
        }
        if (line != null && line.owner != owner) {
            return 9;
        }
        return person.keys.contains(to) ? 0 : 3;
    }

    int day() {
        change();
        pass(now);
        return clean(now);
    }

    private static void pass(State state) {
        state.day++;
        for (Map.Entry<Integer, Line> entry : state.lines.entrySet()) {
            Line line = entry.getValue();
            line.soot += smokedEnds(state, entry.getKey(), state.wind);
            if (!state.people.get(line.owner).truce) {
                for (int end : ends(entry.getKey())) {
                    line.spots += state.coops.contains(end) ? 1 : 0;
                }
            }
        }
        state.lot = (421 * state.lot + 1663) % 10000;
        if (state.lot % 4 == 0) {
            state.wind = state.wind == 3 ? 0 : state.wind + 1;
        }
    }

    int append(int code) {
        if (code < 33 || code > 126) {
            return BAD;
        }
        if (text.length() == 60) {
            return FULL;
        }
        text += (char) code;
        return text.length();
    }

    int clear() {
        int before = text.length();
        text = "";
        return before;
    }

    int fault() {
        for (int end = 1; end <= text.length(); end++) {
            if (!beginsOrders(text.substring(0, end))) {
                return end - 1;
            }
        }
        String[] parts = text.split(",", -1);
        return PARTS.contains(parts[parts.length - 1]) ? MISSING : text.length();
    }

    private static boolean beginsOrders(String beginning) {
        String[] parts = beginning.split(",", -1);
        for (int index = 0; index < parts.length - 1; index++) {
            if (!PARTS.contains(parts[index])) {
                return false;
            }
        }
        for (String part : PARTS) {
            if (part.startsWith(parts[parts.length - 1])) {
                return true;
            }
        }
        return false;
    }

    int run() {
        if (fault() != MISSING) {
            return IMPOSSIBLE;
        }
        change();
        stop = null;
        int position = 0;
        int number = 0;
        for (String part : text.split(",")) {
            int answer = carryOut(part);
            if (answer != 0) {
                stop = new int[] {answer, number, position};
                break;
            }
            number++;
            position += part.length() + 1;
        }
        text = "";
        return number;
    }

    private int carryOut(String part) {
        char letter = part.charAt(0);
        if (letter == 'd') {
            pass(now);
            return 0;
        }
        if (letter == 'c') {
            flip(now.chimneys, Integer.parseInt(part.substring(1)));
            return 0;
        }
        int owner = Integer.parseInt(part.substring(1, 2));
        int gangway = Integer.parseInt(part.substring(3));
        int answer = letter == 'h' ? doHang(owner, gangway)
                : letter == 't' ? doTake(owner, gangway) : doWalk(owner, gangway);
        return answer < 10 ? answer : 0;
    }

    int why(int what) {
        if (what < 0 || what > 2) {
            return BAD;
        }
        return stop == null ? MISSING : stop[what];
    }

    int roof(int roof, int what) {
        if (!roofOk(roof) || what < 0 || what > 7) {
            return BAD;
        }
        int number = 0;
        switch (what) {
            case 0:
                return now.chimneys.contains(roof) ? 1 : 0;
            case 1:
                return smoke(now, now.wind).contains(roof) ? 1 : 0;
            case 2:
                for (int chimney : now.chimneys) {
                    number += plume(now, chimney, now.wind).contains(roof) ? 1 : 0;
                }
                return number;
            case 3:
                return now.coops.contains(roof) ? 1 : 0;
            case 4:
                for (int owner = 0; owner < 4; owner++) {
                    number += now.people.get(owner).at == roof ? 1 << owner : 0;
                }
                return number;
            case 5:
                for (int gangway : now.strength.keySet()) {
                    number += farEnd(gangway, roof) >= 0 && now.strength.get(gangway) >= 1 ? 1 : 0;
                }
                return number;
            case 6:
                for (int gangway : now.lines.keySet()) {
                    number += farEnd(gangway, roof) >= 0 ? 1 : 0;
                }
                return number;
            default:
                for (int other = 0; other < 16; other++) {
                    number += strongest(roof, other, 0) > 0 ? 1 : 0;
                }
                return number;
        }
    }

    int gangway(int gangway, int what) {
        if (ends(gangway) == null || what < 0 || what > 6) {
            return BAD;
        }
        Line line = now.lines.get(gangway);
        if (what >= 3 && what <= 5 && line == null) {
            return MISSING;
        }
        switch (what) {
            case 0:
                return now.strength.get(gangway);
            case 1:
                return ends(gangway)[0];
            case 2:
                return ends(gangway)[1];
            case 3:
                return line.owner;
            case 4:
                return line.soot;
            case 5:
                return line.spots;
            default:
                return smokedEnds(now, gangway, now.wind);
        }
    }

    int ownerOf(int owner, int what) {
        if (!ownerOk(owner) || what < 0 || what > 8) {
            return BAD;
        }
        Person person = now.people.get(owner);
        int number = 0;
        switch (what) {
            case 0:
                return person.weight;
            case 1:
                return bits(person.keys);
            case 2:
                return person.truce ? 1 : 0;
            case 3:
                return person.at;
            case 4:
            case 5:
                for (Line line : now.lines.values()) {
                    boolean counts = what == 4 || line.soot + line.spots == 0;
                    number += line.owner == owner && counts ? 1 : 0;
                }
                return number;
            case 6:
                for (int gangway : now.strength.keySet()) {
                    int to = farEnd(gangway, person.at);
                    number += to >= 0 && whyNotWalk(owner, gangway, to) == 0 ? 1 : 0;
                }
                return number;
            case 7:
                return person.walked;
            default:
                for (int gangway : now.strength.keySet()) {
                    number += whyNotHang(owner, gangway) == 0 ? 1 : 0;
                }
                return number;
        }
    }

    int whyNotHang(int owner, int gangway) {
        if (!ownerOk(owner) || ends(gangway) == null) {
            return BAD;
        }
        Person person = now.people.get(owner);
        int[] ends = ends(gangway);
        if (now.strength.get(gangway) == 0) {
            return 1;
        }
        if (now.lines.containsKey(gangway)) {
            return 2;
        }
        if (!person.keys.contains(ends[0]) || !person.keys.contains(ends[1])) {
            return 3;
        }
        if (smokedEnds(now, gangway, now.wind) > 0) {
            return 4;
        }
        Set<Integer> near = new TreeSet<>(List.of(ends[0], ends[1]));
        near.addAll(neighbours(ends[0]));
        near.addAll(neighbours(ends[1]));
        near.retainAll(now.coops);
        return !person.truce && !near.isEmpty() ? 5 : 0;
    }

    // The strength is the greatest one whose gangways, and stronger ones, lead there at all.
    int strongest(int from, int to, int way) {
        if (!roofOk(from) || !roofOk(to) || way < 0 || way > 1) {
            return BAD;
        }
        for (int strength = 10; strength >= 1; strength--) {
            if (walkable(from, strength).contains(to)) {
                return strength;
            }
        }
        return MISSING;
    }

    private Set<Integer> walkable(int from, int strength) {
        Set<Integer> come = new TreeSet<>();
        Deque<Integer> open = new ArrayDeque<>(List.of(from));
        while (!open.isEmpty()) {
            int roof = open.pop();
            if (come.add(roof)) {
                for (int gangway : now.strength.keySet()) {
                    if (farEnd(gangway, roof) >= 0 && now.strength.get(gangway) >= strength) {
                        open.push(farEnd(gangway, roof));
                    }
                }
            }
        }
        return come;
    }

    int steps(int owner, int roof) {
        if (!ownerOk(owner) || !roofOk(roof)) {
            return BAD;
        }
        int[] far = new int[16];
        Arrays.fill(far, 1000);
        far[now.people.get(owner).at] = 0;
        for (int round = 0; round < 16; round++) {
            for (int gangway : now.strength.keySet()) {
                int[] ends = ends(gangway);
                for (int index = 0; index < 2; index++) {
                    int to = ends[1 - index];
                    if (whyNotWalk(owner, gangway, to) == 0) {
                        far[to] = Math.min(far[to], far[ends[index]] + 1);
                    }
                }
            }
        }
        return far[roof] < 1000 ? far[roof] : MISSING;
    }

    int count(int what) {
        if (what < 0 || what > 17) {
            return BAD;
        }
        int[] numbers = {now.day, now.wind, now.chimneys.size(), smoke(now, now.wind).size(),
            now.coops.size(), now.lines.size(), clean(now), sooty(now), spotty(now),
            smokedLines(now, now.wind), now.hung, now.taken, now.fallen, now.refused, now.reach,
            now.lot, text.length(), past.size()};
        return numbers[what];
    }

    double cleanness() {
        return now.lines.isEmpty() ? 1.0 : (double) clean(now) / now.lines.size();
    }

    int ifWind(int to) {
        return to < 0 || to > 3 ? BAD : smokedLines(now, to);
    }

    int bestWind() {
        int best = 3;
        for (int to = 2; to >= 0; to--) {
            best = ifWind(to) <= ifWind(best) ? to : best;
        }
        return best;
    }

    int ifDays(int days, int what) {
        if (days < 1 || days > 30 || what < 0 || what > 3) {
            return BAD;
        }
        State then = now.copy();
        for (int passed = 0; passed < days; passed++) {
            pass(then);
        }
        return new int[] {clean(then), sooty(then), spotty(then), then.wind}[what];
    }

    int bestPlace(int owner) {
        if (!ownerOk(owner)) {
            return BAD;
        }
        for (int winds = 0; winds <= 4; winds++) {
            for (int gangway : now.strength.keySet()) {
                int smoked = 0;
                for (int wind = 0; wind < 4; wind++) {
                    smoked += smokedEnds(now, gangway, wind) > 0 ? 1 : 0;
                }
                if (smoked == winds && whyNotHang(owner, gangway) == 0) {
                    return gangway;
                }
            }
        }
        return MISSING;
    }

    int undo() {
        if (past.isEmpty()) {
            return IMPOSSIBLE;
        }
        now = past.pop();
        return past.size();
    }

    int save() {
        kept = now.copy();
        return now.lines.size();
    }

    int restore() {
        if (kept == null) {
            return IMPOSSIBLE;
        }
        change();
        now = kept.copy();
        return now.lines.size();
    }
}
