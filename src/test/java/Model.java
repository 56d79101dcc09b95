import java.util.ArrayList;
import java.util.LinkedList;
import java.util.List;
import java.util.Set;
import java.util.TreeSet;

/**
 * The document once more, in another way than the program: copies are sets, every entry tells itself whether it is
 * agreed, states are whole new objects, and forecasts try everything out.
 */
final class Model {
    private static final int BAD = -1;
    private static final int ILLEGAL = -2;
    private static final int FULL = -3;
    private static final int NONE = -9;

    State now = new State();
    private final LinkedList<State> history = new LinkedList<>();
    String text = "";

    /** What an action of the village is refused with. */
    private static final class Refused extends Exception {
        private static final long serialVersionUID = 1L;
        final int code;

        Refused(int code) {
            this.code = code;
        }
    }

    private static void refuse(boolean is, int code) throws Refused {
        if (is) {
            throw new Refused(code);
        }
    }

    static final class Entry {
        int number;
        int term;
        int proposer;
        boolean agreed;
    }

    static final class Draw {
        int state;
        int candidates;
        int first;
        int standing;
        int seat;
    }

    static final class State {
        List<Boolean> present = new ArrayList<>();
        List<Set<Integer>> copies = new ArrayList<>();
        List<Integer> council = new ArrayList<>();
        /** null while no change goes on. */
        List<Integer> joint = null;
        int term = 0;
        int lot = 1;
        List<Entry> entries = new ArrayList<>();
        List<Draw> draws = new ArrayList<>();

        State again() {
            State other = new State();
            other.present.addAll(present);
            for (Set<Integer> copy : copies) {
                other.copies.add(new TreeSet<>(copy));
            }
            other.council.addAll(council);
            other.joint = joint == null ? null : new ArrayList<>(joint);
            other.term = term;
            other.lot = lot;
            for (Entry entry : entries) {
                Entry same = new Entry();
                same.number = entry.number;
                same.term = entry.term;
                same.proposer = entry.proposer;
                same.agreed = entry.agreed;
                other.entries.add(same);
            }
            for (Draw draw : draws) {
                Draw same = new Draw();
                same.state = draw.state;
                same.candidates = draw.candidates;
                same.first = draw.first;
                same.standing = draw.standing;
                same.seat = draw.seat;
                other.draws.add(same);
            }
            return other;
        }

        boolean isVillager(int villager) {
            return villager >= 0 && villager < present.size();
        }

        boolean isElder(int villager) {
            return council.contains(villager) || joint != null && joint.contains(villager);
        }

        boolean hasAllBefore(int villager, int entry) {
            for (int before = 0; before < entry; before++) {
                if (!copies.get(villager).contains(before)) {
                    return false;
                }
            }
            return true;
        }

        int presentNumber() {
            int number = 0;
            for (boolean is : present) {
                number += is ? 1 : 0;
            }
            return number;
        }

        int agreedNumber() {
            int number = 0;
            for (Entry entry : entries) {
                number += entry.agreed ? 1 : 0;
            }
            return number;
        }

        boolean isMajority(List<Integer> elders, Set<Integer> those) {
            int number = 0;
            for (int elder : elders) {
                number += those.contains(elder) ? 1 : 0;
            }
            return 2 * number > elders.size();
        }

        Set<Integer> holders(int entry) {
            Set<Integer> holders = new TreeSet<>();
            for (int villager = 0; villager < copies.size(); villager++) {
                if (copies.get(villager).contains(entry)) {
                    holders.add(villager);
                }
            }
            return holders;
        }

        void agree() {
            for (int entry = 0; entry < entries.size(); entry++) {
                Entry it = entries.get(entry);
                if (it.agreed) {
                    continue;
                }
                Set<Integer> holders = holders(entry);
                if (!isMajority(council, holders) || joint != null && !isMajority(joint, holders)) {
                    return;
                }
                it.agreed = true;
                if (it.number == NONE) {
                    council = joint;
                    joint = null;
                    term++;
                }
            }
        }

        int openChange() {
            for (int entry = 0; entry < entries.size(); entry++) {
                if (entries.get(entry).number == NONE && !entries.get(entry).agreed) {
                    return entry;
                }
            }
            return NONE;
        }

        List<Integer> candidates() {
            List<Integer> candidates = new ArrayList<>();
            for (int villager = 0; villager < present.size(); villager++) {
                if (!council.contains(villager)) {
                    candidates.add(villager);
                }
            }
            return candidates;
        }

        void add(int elder, int number) {
            Entry entry = new Entry();
            entry.number = number;
            entry.term = term;
            entry.proposer = elder;
            entries.add(entry);
            copies.get(elder).add(entries.size() - 1);
            agree();
        }
    }

    private static int after(int lot) {
        return (int) ((lot * 25173L + 13849L) % 65536L);
    }

    /** Runs a call that is an action. */
    int act(String name, int a, int b) {
        State before = now.again();
        try {
            int answer = call(name, a, b);
            keep(before);
            return answer;
        } catch (Refused refused) {
            return refused.code;
        }
    }

    private void keep(State before) {
        history.addLast(before);
        if (history.size() > 5) {
            history.removeFirst();
        }
    }

    private int call(String name, int a, int b) throws Refused {
        switch (name) {
            case "come": return come();
            case "attend": return attend(a, b);
            case "found": return found(a);
            case "setLot": return setLot(a);
            case "change": return change(a, b);
            case "forge": return forge(a);
            case "propose": return propose(a, b);
            case "second": return second(a, b);
            case "learn": return learn(a);
            default: throw new IllegalArgumentException(name);
        }
    }

    private int come() throws Refused {
        refuse(now.present.size() == 12, FULL);
        now.present.add(true);
        now.copies.add(new TreeSet<>());
        return now.present.size() - 1;
    }

    private int attend(int villager, int is) throws Refused {
        refuse(!now.isVillager(villager) || is != 0 && is != 1, BAD);
        refuse(now.present.get(villager) == (is == 1), ILLEGAL);
        now.present.set(villager, is == 1);
        return now.presentNumber();
    }

    private int found(int size) throws Refused {
        refuse(size < 1 || size > 5, BAD);
        refuse(!now.council.isEmpty() || now.present.size() < size, ILLEGAL);
        for (int seat = 0; seat < size; seat++) {
            now.council.add(seat);
        }
        return size;
    }

    private int setLot(int state) throws Refused {
        refuse(state < 0 || state > 65535, BAD);
        int previous = now.lot;
        now.lot = state;
        return previous;
    }

    private int change(int elder, int seat) throws Refused {
        refuse(!now.isVillager(elder) || seat < 0 || seat >= now.council.size(), BAD);
        refuse(now.joint != null, ILLEGAL);
        refuse(!now.council.contains(elder), ILLEGAL);
        refuse(!now.present.get(elder), ILLEGAL);
        refuse(!now.hasAllBefore(elder, now.entries.size()), ILLEGAL);
        List<Integer> candidates = now.candidates();
        refuse(candidates.isEmpty(), ILLEGAL);
        refuse(now.entries.size() == 60, FULL);
        Draw draw = new Draw();
        draw.state = now.lot;
        draw.candidates = candidates.size();
        draw.seat = seat;
        now.lot = after(now.lot);
        draw.first = candidates.get(now.lot % candidates.size());
        draw.standing = draw.first;
        now.draws.add(draw);
        now.joint = new ArrayList<>(now.council);
        now.joint.set(seat, draw.first);
        now.add(elder, NONE);
        return draw.first;
    }

    private int forge(int villager) throws Refused {
        refuse(!now.isVillager(villager), BAD);
        refuse(now.joint == null || now.isElder(villager), ILLEGAL);
        Draw draw = now.draws.get(now.draws.size() - 1);
        int replaced = draw.standing;
        draw.standing = villager;
        now.joint.set(draw.seat, villager);
        now.agree();
        return replaced;
    }

    private int propose(int elder, int number) throws Refused {
        refuse(!now.isVillager(elder) || number < 0 || number > 999, BAD);
        refuse(!now.isElder(elder) || !now.present.get(elder), ILLEGAL);
        refuse(!now.hasAllBefore(elder, now.entries.size()), ILLEGAL);
        refuse(now.entries.size() == 60, FULL);
        now.add(elder, number);
        return now.entries.size() - 1;
    }

    private int second(int elder, int entry) throws Refused {
        refuse(!now.isVillager(elder) || entry < 0 || entry >= now.entries.size(), BAD);
        refuse(!now.isElder(elder) || !now.present.get(elder), ILLEGAL);
        refuse(now.copies.get(elder).contains(entry) || !now.hasAllBefore(elder, entry), ILLEGAL);
        int before = now.agreedNumber();
        now.copies.get(elder).add(entry);
        now.agree();
        return now.agreedNumber() - before;
    }

    private int learn(int villager) throws Refused {
        refuse(!now.isVillager(villager), BAD);
        refuse(!now.present.get(villager), ILLEGAL);
        int learned = 0;
        for (int entry = 0; entry < now.entries.size(); entry++) {
            if (now.entries.get(entry).agreed && now.copies.get(villager).add(entry)) {
                learned++;
            }
        }
        return learned;
    }

    int undo() {
        if (history.isEmpty()) {
            return ILLEGAL;
        }
        now = history.removeLast();
        return history.size();
    }

    int append(int character) {
        if (character < 1 || character > 255) {
            return BAD;
        }
        if (text.length() == 60) {
            return FULL;
        }
        text += (char) character;
        return text.length();
    }

    int clearText() {
        int previous = text.length();
        text = "";
        return previous;
    }

    /** Reads sign by sign; the part is what has been read of the command so far. */
    int run() {
        State before = now.again();
        int commands = 0;
        int start = 0;
        String part = "";
        for (int place = 0; place < text.length(); place++) {
            part += text.charAt(place);
            if (!part.matches("([ps](N(:(N;?)?)?)?|[lgb](N;?)?)".replace("N", "(0|[1-9][0-9]{0,2})"))) {
                now = before;
                return -1000 - place;
            }
            if (part.endsWith(";")) {
                String[] numbers = part.substring(1, part.length() - 1).split(":");
                int first = Integer.parseInt(numbers[0]);
                int other = numbers.length > 1 ? Integer.parseInt(numbers[1]) : 0;
                try {
                    switch (part.charAt(0)) {
                        case 'p': propose(first, other); break;
                        case 's': second(first, other); break;
                        case 'l': learn(first); break;
                        case 'g': attend(first, 0); break;
                        default: attend(first, 1); break;
                    }
                } catch (Refused refused) {
                    now = before;
                    return -1000 - start;
                }
                commands++;
                start = place + 1;
                part = "";
            }
        }
        if (!part.isEmpty()) {
            now = before;
            return -1000 - text.length();
        }
        keep(before);
        text = "";
        return commands;
    }

    int count(int what) {
        int forged = 0;
        for (Draw draw : now.draws) {
            forged += draw.first != draw.standing ? 1 : 0;
        }
        int[] counts = {
            now.present.size(), now.presentNumber(), now.council.size(), now.term, now.entries.size(), now.agreedNumber(),
            now.joint == null ? 0 : 1, now.lot, now.draws.size(), forged, history.size(), text.length(),
        };
        return what < 0 || what >= counts.length ? BAD : counts[what];
    }

    int elder(int council, int seat) {
        if (council != 0 && council != 1 || seat < 0 || seat >= now.council.size()) {
            return BAD;
        }
        if (council == 0) {
            return now.council.get(seat);
        }
        return now.joint == null ? NONE : now.joint.get(seat);
    }

    private static int seat(List<Integer> council, int villager) {
        int seat = council.indexOf(villager);
        return seat < 0 ? NONE : seat;
    }

    int villager(int villager, int what) {
        if (!now.isVillager(villager) || what < 0 || what > 4) {
            return BAD;
        }
        int drawn = 0;
        for (Draw draw : now.draws) {
            drawn += draw.standing == villager ? 1 : 0;
        }
        int[] about = {
            now.present.get(villager) ? 1 : 0, now.copies.get(villager).size(), seat(now.council, villager),
            seat(now.joint == null ? now.council : now.joint, villager), drawn,
        };
        return about[what];
    }

    int entry(int entry, int what) {
        if (entry < 0 || entry >= now.entries.size() || what < 0 || what > 6) {
            return BAD;
        }
        Entry it = now.entries.get(entry);
        Set<Integer> holders = now.holders(entry);
        Set<Integer> old = new TreeSet<>(now.council);
        old.retainAll(holders);
        Set<Integer> next = new TreeSet<>(now.joint == null ? now.council : now.joint);
        next.retainAll(holders);
        int[] about = {it.number, it.term, it.agreed ? 1 : 0, holders.size(), it.proposer, old.size(), next.size()};
        return about[what];
    }

    int draw(int draw, int what) {
        if (draw < 0 || draw >= now.draws.size() || what < 0 || what > 4) {
            return BAD;
        }
        Draw it = now.draws.get(draw);
        int[] about = {it.state, it.candidates, it.standing, it.first != it.standing ? 1 : 0, it.seat};
        return about[what];
    }

    int missing(int entry) {
        if (entry < 0 || entry >= now.entries.size()) {
            return BAD;
        }
        if (now.entries.get(entry).agreed) {
            return 0;
        }
        int change = now.openChange();
        List<List<Integer>> councils = new ArrayList<>();
        if (change == NONE || entry <= change) {
            councils.add(now.council);
        }
        if (change != NONE) {
            councils.add(now.joint);
        }
        int fewest = 99;
        for (int those = 0; those < 1 << now.present.size(); those++) {
            Set<Integer> with = new TreeSet<>(now.holders(entry));
            for (int villager = 0; villager < now.present.size(); villager++) {
                if ((those >> villager & 1) == 1) {
                    with.add(villager);
                }
            }
            boolean enough = true;
            for (List<Integer> council : councils) {
                enough &= now.isMajority(council, with);
            }
            if (enough) {
                fewest = Math.min(fewest, Integer.bitCount(those));
            }
        }
        return fewest;
    }

    /** Lets everybody who is present second what they can, from the first villager on or from the last. */
    int reachable(boolean fromLast) {
        State real = now;
        now = real.again();
        boolean more = true;
        while (more) {
            more = false;
            for (int turn = 0; turn < now.present.size(); turn++) {
                int villager = fromLast ? now.present.size() - 1 - turn : turn;
                for (int entry = 0; entry < now.entries.size(); entry++) {
                    try {
                        second(villager, entry);
                        more = true;
                    } catch (Refused refused) {
                        continue;
                    }
                }
            }
        }
        int reached = now.agreedNumber() - real.agreedNumber();
        now = real;
        return reached;
    }

    int nextDrawn(int seat) {
        if (seat < 0 || seat >= now.council.size()) {
            return BAD;
        }
        if (now.joint != null) {
            return ILLEGAL;
        }
        List<Integer> candidates = now.candidates();
        return candidates.isEmpty() ? NONE : candidates.get(after(now.lot) % candidates.size());
    }

    int spare() {
        if (now.council.isEmpty()) {
            return NONE;
        }
        int most = -1;
        for (int away = 0; away < 1 << now.present.size(); away++) {
            Set<Integer> here = new TreeSet<>();
            for (int villager = 0; villager < now.present.size(); villager++) {
                if ((away >> villager & 1) == 0) {
                    here.add(villager);
                }
            }
            if (now.isMajority(now.council, here) && (now.joint == null || now.isMajority(now.joint, here))) {
                most = Math.max(most, Integer.bitCount(away));
            }
        }
        return most;
    }

    int lotFor(int villager, int seat) {
        if (!now.isVillager(villager) || seat < 0 || seat >= now.council.size()) {
            return BAD;
        }
        if (now.joint != null) {
            return ILLEGAL;
        }
        List<Integer> candidates = now.candidates();
        for (int lot = 0; lot < 65536 && !candidates.isEmpty(); lot++) {
            if (candidates.get(after(lot) % candidates.size()) == villager) {
                return lot;
            }
        }
        return NONE;
    }
}
