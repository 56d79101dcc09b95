import java.util.ArrayList;
import java.util.List;
import java.util.Random;

/** Runs of 512 calls that are drawn with fixed seeds, each answer compared with that of the model. */
public final class RandomRunsTest {
    private static final int RUNS = 729;
    private static final int CALLS = 512;
    private static final int[] STRANGE = {-1, -2, -9, -1000, 12, 60, 255, 256, 999, 1000, 65535, 65536, 1 << 30, Integer.MIN_VALUE, Integer.MAX_VALUE};
    private static final Checks CHECKS = new Checks();

    private final Random random;
    private final VillageLog log = new VillageLog();
    private final Model model = new Model();
    private final List<String> calls = new ArrayList<>();
    private boolean isWrong = false;

    /** How often, of 100 calls, one of each kind is made. */
    private final int undos;
    private final int strange;
    private final int comers;
    private final int goers;
    private final int changes;
    private final int texts;

    private RandomRunsTest(int seed) {
        random = new Random(seed);
        undos = new int[] {0, 1, 5}[seed % 3];
        strange = new int[] {0, 2, 10}[seed / 3 % 3];
        comers = new int[] {1, 3, 12}[seed / 9 % 3];
        goers = new int[] {0, 3, 10}[seed / 27 % 3];
        changes = new int[] {1, 5, 15}[seed / 81 % 3];
        texts = new int[] {0, 2, 20}[seed / 243 % 3];
    }

    public static void main(String[] args) {
        for (int seed = 0; seed < RUNS; seed++) {
            RandomRunsTest run = new RandomRunsTest(seed);
            while (run.goesOn()) {
                run.call();
            }
            if (run.isWrong) {
                System.out.println("seed " + seed + ": " + run.calls);
            }
        }
        CHECKS.end("RandomRunsTest");
    }

    /** What the program answers after its 512th call is free. */
    private boolean goesOn() {
        return calls.size() < CALLS && !isWrong;
    }

    private void compare(String call, int got, int want) {
        calls.add(call + " = " + got);
        CHECKS.due(call, got, want);
        isWrong |= got != want;
    }

    private int any(int bound) {
        return random.nextInt(Math.max(1, bound));
    }

    private int villager() {
        return any(100) < strange ? STRANGE[any(STRANGE.length)] : any(model.now.present.size() + (any(20) == 0 ? 1 : 0));
    }

    private int seat() {
        return any(100) < strange ? STRANGE[any(STRANGE.length)] : any(model.now.council.size() + (any(20) == 0 ? 1 : 0));
    }

    private int entry() {
        return any(100) < strange ? STRANGE[any(STRANGE.length)] : any(model.now.entries.size() + (any(20) == 0 ? 1 : 0));
    }

    /** Mostly an elder, and often one who has all entries. */
    private int elder() {
        List<Integer> elders = new ArrayList<>(model.now.council);
        if (model.now.joint != null) {
            elders.addAll(model.now.joint);
        }
        if (elders.isEmpty() || any(10) == 0) {
            return villager();
        }
        List<Integer> full = new ArrayList<>(elders);
        full.removeIf(elder -> model.now.copies.get(elder).size() < model.now.entries.size());
        List<Integer> from = full.isEmpty() || any(6) == 0 ? elders : full;
        return from.get(any(from.size()));
    }

    /** Mostly an elder who lacks an entry. */
    private int seconder() {
        List<Integer> elders = new ArrayList<>(model.now.council);
        if (model.now.joint != null) {
            elders.addAll(model.now.joint);
        }
        elders.removeIf(elder -> model.now.copies.get(elder).size() == model.now.entries.size());
        return elders.isEmpty() || any(10) == 0 ? villager() : elders.get(any(elders.size()));
    }

    /** Mostly the entry that is the next one for the copy. */
    private int nextEntry(int villager) {
        return model.now.isVillager(villager) && any(12) > 0 ? model.now.copies.get(villager).size() : entry();
    }

    private int number() {
        return any(100) < strange ? STRANGE[any(STRANGE.length)] : any(1000);
    }

    private void call() {
        int kind = any(100);
        if (kind < undos) {
            compare("undo()", log.undo(), model.undo());
        } else if (kind < undos + comers) {
            compare("come()", log.come(), model.act("come", 0, 0));
        } else if (model.now.council.isEmpty() && any(4) == 0) {
            int size = any(8) - 1;
            compare("found(" + size + ")", log.found(size), model.act("found", size, 0));
        } else if (kind < 25) {
            act(any(100));
        } else if (kind < 55) {
            act(50 + any(50));
        } else if (kind < 55 + texts) {
            text();
        } else {
            look();
        }
    }

    private void act(int kind) {
        if (kind < goers) {
            int villager = villager();
            int is = any(100) < strange ? STRANGE[any(STRANGE.length)] : any(3) == 0 ? 0 : 1;
            compare("attend(" + villager + ", " + is + ")", log.attend(villager, is), model.act("attend", villager, is));
        } else if (kind < goers + changes) {
            int elder = elder();
            int seat = seat();
            compare("change(" + elder + ", " + seat + ")", log.change(elder, seat), model.act("change", elder, seat));
        } else if (kind < goers + 2 * changes) {
            int villager = villager();
            compare("forge(" + villager + ")", log.forge(villager), model.act("forge", villager, 0));
        } else if (kind < 42) {
            int state = any(100) < strange ? STRANGE[any(STRANGE.length)] : any(65536);
            compare("setLot(" + state + ")", log.setLot(state), model.act("setLot", state, 0));
        } else if (kind < 47) {
            int size = any(8) - 1;
            compare("found(" + size + ")", log.found(size), model.act("found", size, 0));
        } else if (kind < 55) {
            int villager = villager();
            compare("learn(" + villager + ")", log.learn(villager), model.act("learn", villager, 0));
        } else if (kind < 67) {
            int elder = elder();
            int number = number();
            compare("propose(" + elder + ", " + number + ")", log.propose(elder, number), model.act("propose", elder, number));
        } else {
            int elder = seconder();
            int entry = nextEntry(elder);
            compare("second(" + elder + ", " + entry + ")", log.second(elder, entry), model.act("second", elder, entry));
        }
    }

    private void append(int character) {
        compare("append(" + character + ")", log.append(character), model.append(character));
    }

    /** Appends a command or something like it, or runs or clears the text. */
    private void text() {
        int kind = any(30);
        if (kind < 10) {
            compare("run()", log.run(), model.run());
            return;
        }
        if (kind < 12) {
            compare("clearText()", log.clearText(), model.clearText());
            return;
        }
        if (kind == 12) {
            append(any(2) == 0 ? any(260) - 2 : STRANGE[any(STRANGE.length)]);
            return;
        }
        if (kind == 13) {
            append("pslgb:;0123456789 ".charAt(any(18)));
            return;
        }
        int elder = any(2) == 0 ? elder() : seconder();
        String[] commands = {
            "p" + elder + ":" + any(1000) + ";", "s" + elder + ":" + nextEntry(elder) + ";", "s" + elder + ":" + nextEntry(elder) + ";",
            "l" + villager() + ";", "g" + villager() + ";", "b" + villager() + ";",
        };
        String command = commands[any(commands.length)];
        for (int place = 0; place < command.length() && goesOn(); place++) {
            append(command.charAt(place));
        }
    }

    private void look() {
        int what = any(100) < strange ? STRANGE[any(STRANGE.length)] : any(8);
        switch (any(11)) {
            case 0: {
                int number = any(13);
                compare("count(" + number + ")", log.count(number), model.count(number));
                break;
            }
            case 1: {
                int council = any(100) < strange ? what : any(2);
                int seat = seat();
                compare("elder(" + council + ", " + seat + ")", log.elder(council, seat), model.elder(council, seat));
                break;
            }
            case 2: {
                int villager = villager();
                compare("villager(" + villager + ", " + what + ")", log.villager(villager, what), model.villager(villager, what));
                break;
            }
            case 3: {
                int entry = entry();
                compare("entry(" + entry + ", " + what + ")", log.entry(entry, what), model.entry(entry, what));
                break;
            }
            case 4: {
                int draw = any(100) < strange ? what : any(model.now.draws.size() + 1);
                compare("draw(" + draw + ", " + what + ")", log.draw(draw, what), model.draw(draw, what));
                break;
            }
            case 5:
            case 6: {
                int entry = any(3) == 0 ? entry() : Math.min(model.now.agreedNumber() + any(4), model.now.entries.size());
                compare("missing(" + entry + ")", log.missing(entry), model.missing(entry));
                break;
            }
            case 7: {
                int reached = log.reachable();
                compare("reachable()", reached, model.reachable(false));
                compare("reachable()", reached, model.reachable(true));
                break;
            }
            case 8: {
                int seat = seat();
                compare("nextDrawn(" + seat + ")", log.nextDrawn(seat), model.nextDrawn(seat));
                break;
            }
            case 9: {
                compare("spare()", log.spare(), model.spare());
                break;
            }
            default: {
                int villager = villager();
                int seat = seat();
                compare("lotFor(" + villager + ", " + seat + ")", log.lotFor(villager, seat), model.lotFor(villager, seat));
                break;
            }
        }
    }
}
