/** Promises 20 to 24. */
public final class ForecastsTest {
    private static final Checks CHECKS = new Checks();
    private static final int BAD = VillageLog.INVALID_ARGUMENT;
    private static final int ILLEGAL = VillageLog.ILLEGAL_STATE;
    private static final int NONE = VillageLog.NONE;
    private static final int[] MAJORITY = {0, 1, 2, 2, 3, 3};
    private static final int[] STRANGE = {-1, -9, Integer.MIN_VALUE, Integer.MAX_VALUE};

    public static void main(String[] args) {
        promise20();
        promise20WhileAChangeGoesOn();
        promise21();
        promise21WhileAChangeGoesOn();
        promise22();
        promise23();
        promise24();
        CHECKS.end("ForecastsTest");
    }

    private static void due(String call, long got, long want) {
        CHECKS.due(call, got, want);
    }

    private static void promise20() {
        VillageLog log = Villages.of(6, 5);
        due("20: missing(0) without entries", log.missing(0), BAD);
        log.propose(0, 1);
        log.propose(0, 2);
        due("20: missing(2)", log.missing(2), BAD);
        for (int entry : STRANGE) {
            due("20: missing(" + entry + ")", log.missing(entry), BAD);
        }
        due("20: missing(0)", log.missing(0), 2);
        due("20: missing(1)", log.missing(1), 2);
        log.second(1, 0);
        log.attend(2, 0);
        log.attend(3, 0);
        log.attend(4, 0);
        due("20: missing(0), be they present or not", log.missing(0), 1);
        due("20: missing(1)", log.missing(1), 2);
        log.attend(3, 1);
        log.second(3, 0);
        due("20: missing(0), which is agreed", log.missing(0), 0);
        due("20: missing(1)", log.missing(1), 2);
        for (int size = 1; size <= 5; size++) {
            VillageLog other = Villages.of(size, size);
            other.propose(0, 1);
            due("20: missing(0) of " + size, other.missing(0), MAJORITY[size] - 1);
        }
    }

    private static void promise20WhileAChangeGoesOn() {
        // One elder of both councils has the change entry.
        int[] forChange = {0, 0, 2, 1, 2, 2};
        for (int size = 2; size <= 5; size++) {
            VillageLog log = Villages.of(size + 1, size);
            log.change(0, size - 1);
            due("20: the change of " + size, log.missing(0), forChange[size]);
            log.propose(0, 4);
            due("20: behind it only the new council counts", log.missing(1), MAJORITY[size] - 1);
        }
        VillageLog one = Villages.of(3, 1);
        due("20: change(0, 0)", one.change(0, 0), 1);
        due("20: one of both", one.missing(0), 1);
        one.propose(0, 4);
        due("20: the old elder does not count behind it", one.missing(1), 1);

        VillageLog log = Villages.of(3, 2);
        log.propose(1, 4);
        log.second(0, 0);
        log.propose(0, 5);
        due("20: change(0, 0)", log.change(0, 0), 2);
        log.propose(0, 6);
        due("20: before the change entry both count", log.missing(1), 2);
        due("20: the change entry", log.missing(2), 2);
        due("20: behind it", log.missing(3), 2);
        log.learn(2);
        for (int entry = 1; entry < 4; entry++) {
            log.second(2, entry);
        }
        due("20: before the change entry", log.missing(1), 1);
        due("20: the change entry", log.missing(2), 1);
        due("20: behind it", log.missing(3), 1);
        log.second(1, 1);
        due("20: agreed", log.missing(1), 0);

        // Only the elder who leaves has the change entry; the one on seat 0 serves both councils.
        int[] byWhoLeaves = {0, 0, 2, 2, 3, 3};
        for (int size = 2; size <= 5; size++) {
            VillageLog leaving = Villages.of(size + 1, size);
            leaving.change(size - 1, size - 1);
            due("20: who leaves " + size, leaving.missing(0), byWhoLeaves[size]);
            due("20: spare() of " + size, leaving.spare(), size == 2 ? 0 : size + 1 - MAJORITY[size]);
        }

        VillageLog all = Villages.of(4, 3);
        all.change(0, 2);
        all.propose(0, 1);
        all.second(3, 0);
        all.second(3, 1);
        due("20: the change wants one of the old council", all.missing(0), 1);
        due("20: none is missing behind it, though it is not agreed", all.missing(1), 0);
        due("20: it is not agreed", all.entry(1, 2), 0);
    }

    private static void promise21() {
        VillageLog log = new VillageLog();
        due("21: without a council", log.reachable(), 0);
        log = Villages.of(6, 5);
        due("21: without entries", log.reachable(), 0);
        log.propose(0, 1);
        log.propose(0, 2);
        log.propose(0, 3);
        due("21: all", log.reachable(), 3);
        log.attend(2, 0);
        log.attend(3, 0);
        due("21: with three", log.reachable(), 3);
        log.attend(4, 0);
        due("21: with two", log.reachable(), 0);
        log.attend(3, 1);
        log.second(3, 0);
        log.second(3, 1);
        log.attend(3, 0);
        due("21: who is away counts with what is in the copy", log.reachable(), 2);
        log.second(1, 0);
        due("21: more entries, not all", log.reachable(), 1);
        due("21: agreed", log.count(5), 1);
        log.attend(5, 0);
        log.attend(4, 1);
        due("21: three again", log.reachable(), 2);
        log.attend(0, 0);
        log.attend(1, 0);
        log.attend(4, 0);
        due("21: all away", log.reachable(), 0);
    }

    private static void promise21WhileAChangeGoesOn() {
        VillageLog log = Villages.of(4, 2);
        log.propose(0, 1);
        due("21: change(0, 0)", log.change(0, 0), 2);
        log.propose(0, 2);
        due("21: all", log.reachable(), 3);
        log.attend(2, 0);
        due("21: the new elder is away", log.reachable(), 0);
        log.attend(2, 1);
        log.attend(0, 0);
        due("21: the old elder is away, but has them", log.reachable(), 3);
        log.attend(1, 0);
        due("21: the elder of both is away", log.reachable(), 0);
        log.attend(1, 1);
        log.second(1, 0);
        log.second(1, 1);
        log.second(2, 0);
        log.second(2, 1);
        due("21: the change is over", log.count(6), 0);
        due("21: the entry behind it", log.reachable(), 1);

        VillageLog three = Villages.of(4, 3);
        three.change(1, 0);
        three.attend(3, 0);
        three.attend(2, 0);
        due("21: only old ones agree on nothing", three.reachable(), 0);
        three.attend(2, 1);
        due("21: two of both are enough", three.reachable(), 1);
        three.attend(0, 0);
        due("21: without the old elder", three.reachable(), 1);

        VillageLog behind = Villages.of(3, 1);
        behind.change(0, 0);
        behind.propose(0, 5);
        behind.second(1, 0);
        behind.undo();
        behind.attend(1, 0);
        due("21: the only new elder is away", behind.reachable(), 0);
        behind.attend(1, 1);
        due("21: the only new elder is back", behind.reachable(), 2);

        VillageLog old = Villages.of(5, 3);
        old.change(0, 1);
        old.propose(0, 1);
        old.attend(2, 0);
        old.attend(3, 0);
        due("21: old majority only", old.reachable(), 0);
        old.attend(3, 1);
        old.attend(1, 0);
        due("21: new majority only", old.reachable(), 0);
        old.attend(1, 1);
        due("21: both majorities", old.reachable(), 2);
        old.second(1, 0);
        old.attend(1, 0);
        due("21: the old elder has it and is away", old.reachable(), 2);
    }

    private static void promise22() {
        VillageLog log = Villages.of(5, 0);
        due("22: without a council", log.nextDrawn(0), BAD);
        log.found(2);
        for (int seat : STRANGE) {
            due("22: nextDrawn(" + seat + ")", log.nextDrawn(seat), BAD);
        }
        due("22: nextDrawn(2)", log.nextDrawn(2), BAD);
        for (int lot = 0; lot < 100; lot++) {
            log.setLot(lot * 655);
            int drawn = log.nextDrawn(lot % 2);
            due("22: nextDrawn by " + lot, drawn, 2 + (lot * 655L * 25173L + 13849L) % 65536L % 3L);
        }
        due("22: the lot stays", log.count(7), 99 * 655);
        int next = log.nextDrawn(1);
        due("22: change(0, 1)", log.change(0, 1), next);
        due("22: a change goes on", log.nextDrawn(0), ILLEGAL);
        due("22: no such seat first", log.nextDrawn(2), BAD);
        VillageLog full = Villages.of(2, 2);
        due("22: no candidate", full.nextDrawn(0), NONE);
        full.come();
        full.attend(2, 0);
        due("22: who is away is a candidate", full.nextDrawn(1), 2);
    }

    private static void promise23() {
        due("23: no villager", new VillageLog().spare(), NONE);
        due("23: no council", Villages.of(5, 0).spare(), NONE);
        int[] whileChanging = {0, 2, 3, 2, 3, 3};
        for (int villagers = 1; villagers <= 12; villagers++) {
            for (int size = 1; size <= Math.min(5, villagers); size++) {
                VillageLog log = Villages.of(villagers, size);
                due("23: " + size + " of " + villagers, log.spare(), villagers - MAJORITY[size]);
                log.attend(0, 0);
                due("23: as if all were present", log.spare(), villagers - MAJORITY[size]);
                log.attend(0, 1);
                log.propose(0, 5);
                due("23: as if all copies were alike", log.spare(), villagers - MAJORITY[size]);
                if (size < villagers) {
                    log.change(0, 0);
                    due("23: " + size + " of " + villagers + " while changing", log.spare(), villagers - whileChanging[size]);
                    log.propose(0, 6);
                    due("23: and behind the change entry", log.spare(), villagers - whileChanging[size]);
                }
            }
        }
    }

    private static void promise24() {
        VillageLog log = Villages.of(12, 0);
        due("24: without a council", log.lotFor(0, 0), BAD);
        log.found(5);
        due("24: lotFor(12, 0)", log.lotFor(12, 0), BAD);
        due("24: lotFor(0, 5)", log.lotFor(0, 5), BAD);
        for (int what : STRANGE) {
            due("24: lotFor(" + what + ", 0)", log.lotFor(what, 0), BAD);
            due("24: lotFor(7, " + what + ")", log.lotFor(7, what), BAD);
        }
        for (int elder = 0; elder < 5; elder++) {
            due("24: an elder", log.lotFor(elder, 4), NONE);
        }
        due("24: the lot stays", log.count(7), 1);
        log.change(0, 0);
        due("24: a change goes on", log.lotFor(11, 0), ILLEGAL);
        due("24: no such villager first", log.lotFor(12, 0), BAD);
        due("24: no such seat first", log.lotFor(0, 5), BAD);
        due("24: an elder while a change goes on", log.lotFor(0, 0), ILLEGAL);
        due("24: no candidate", Villages.of(2, 2).lotFor(0, 0), NONE);
        for (int villagers = 2; villagers <= 12; villagers++) {
            for (int size = 1; size <= Math.min(5, villagers - 1); size++) {
                smallestStates(villagers, size);
            }
        }
    }

    private static void smallestStates(int villagers, int size) {
        for (int villager = size; villager < villagers; villager++) {
            VillageLog log = Villages.of(villagers, size);
            int state = log.lotFor(villager, size - 1);
            String call = "24: lotFor(" + villager + ", " + (size - 1) + ") of " + villagers;
            CHECKS.holds(call + " is a state", state >= 0 && state <= 65535);
            for (int smaller = 0; smaller < state; smaller++) {
                int drawn = (int) (size + (smaller * 25173L + 13849L) % 65536L % (villagers - size));
                CHECKS.holds(call + " is the smallest", drawn != villager);
            }
            log.setLot(state);
            due(call + " draws", log.change(0, size - 1), villager);
        }
    }
}
