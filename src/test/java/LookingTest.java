/** Promises 15 to 19. */
public final class LookingTest {
    private static final Checks CHECKS = new Checks();
    private static final int BAD = VillageLog.INVALID_ARGUMENT;
    private static final int NONE = VillageLog.NONE;
    private static final int[] STRANGE = {-1, -9, Integer.MIN_VALUE, Integer.MAX_VALUE};

    public static void main(String[] args) {
        promise15();
        promise16();
        promise17();
        promise18();
        promise19();
        changesNothing();
        CHECKS.end("LookingTest");
    }

    private static void due(String call, long got, long want) {
        CHECKS.due(call, got, want);
    }

    /** Six villagers, a council of 0, 4 and 2 in the term 1, a second change that is forged and goes on. */
    private static VillageLog village() {
        VillageLog log = Villages.of(6, 3);
        due("change(0, 1)", log.change(0, 1), 4);
        log.second(2, 0);
        log.propose(2, 50);
        log.second(0, 1);
        log.learn(5);
        // 39022 * 25173 + 13849 modulo 65536 is 61087, modulo 3 candidates 1
        due("change(2, 0)", log.change(2, 0), 3);
        due("forge(1)", log.forge(1), 3);
        log.propose(2, 60);
        log.attend(5, 0);
        log.second(4, 0);
        log.second(4, 1);
        log.second(1, 0);
        Villages.write(log, "abcd");
        return log;
    }

    private static void promise15() {
        VillageLog log = village();
        int[] want = {6, 5, 3, 1, 4, 2, 1, 61087, 2, 1, 5, 4};
        for (int what = 0; what < want.length; what++) {
            due("15: count(" + what + ")", log.count(what), want[what]);
        }
        due("15: count(12)", log.count(12), BAD);
        for (int what : STRANGE) {
            due("15: count(" + what + ")", log.count(what), BAD);
        }
        log.forge(3);
        due("15: forged draws", log.count(9), 0);
        due("15: draws", log.count(8), 2);
        log.undo();
        due("15: states", log.count(10), 4);
        log.clearText();
        due("15: the text", log.count(11), 0);
    }

    private static void promise16() {
        VillageLog log = village();
        int[] old = {0, 4, 2};
        int[] next = {1, 4, 2};
        for (int seat = 0; seat < 3; seat++) {
            due("16: elder(0, " + seat + ")", log.elder(0, seat), old[seat]);
            due("16: elder(1, " + seat + ")", log.elder(1, seat), next[seat]);
        }
        due("16: elder(0, 3)", log.elder(0, 3), BAD);
        due("16: elder(1, 3)", log.elder(1, 3), BAD);
        due("16: elder(2, 0)", log.elder(2, 0), BAD);
        for (int what : STRANGE) {
            due("16: elder(0, " + what + ")", log.elder(0, what), BAD);
            due("16: elder(1, " + what + ")", log.elder(1, what), BAD);
            due("16: elder(" + what + ", 0)", log.elder(what, 0), BAD);
        }
        VillageLog calm = Villages.of(4, 3);
        due("16: elder(1, 2) without a change", calm.elder(1, 2), NONE);
        due("16: elder(1, 3) without a change", calm.elder(1, 3), BAD);
        due("16: elder(0, 2)", calm.elder(0, 2), 2);
        VillageLog none = Villages.of(4, 0);
        due("16: elder(0, 0) without a council", none.elder(0, 0), BAD);
        due("16: elder(1, 0) without a council", none.elder(1, 0), BAD);
    }

    private static void promise17() {
        VillageLog log = village();
        int[][] want = {
            {1, 2, 0, NONE, 0},
            {1, 1, NONE, 0, 1},
            {1, 4, 2, 2, 0},
            {1, 0, NONE, NONE, 0},
            {1, 2, 1, 1, 1},
            {0, 2, NONE, NONE, 0},
        };
        for (int villager = 0; villager < want.length; villager++) {
            for (int what = 0; what < 5; what++) {
                due("17: villager(" + villager + ", " + what + ")", log.villager(villager, what), want[villager][what]);
            }
        }
        due("17: villager(6, 0)", log.villager(6, 0), BAD);
        due("17: villager(0, 5)", log.villager(0, 5), BAD);
        for (int what : STRANGE) {
            due("17: villager(0, " + what + ")", log.villager(0, what), BAD);
            due("17: villager(" + what + ", 0)", log.villager(what, 0), BAD);
        }
        log.forge(3);
        due("17: drawn as it stands now", log.villager(1, 4) * 10 + log.villager(3, 4), 1);

        VillageLog twice = Villages.of(2, 1);
        for (int change = 0; change < 4; change++) {
            int drawn = 1 - change % 2;
            due("17: change(" + (1 - drawn) + ", 0)", twice.change(1 - drawn, 0), drawn);
            if (change > 0) {
                twice.learn(drawn);
            }
            due("17: second", twice.second(drawn, change), 1);
        }
        due("17: drawn twice", twice.villager(0, 4) * 10 + twice.villager(1, 4), 22);
        due("17: its seat without a change", twice.villager(0, 2) + twice.villager(0, 3), 0);
        due("17: no seat without a change", twice.villager(1, 2) + twice.villager(1, 3), 2 * NONE);
    }

    private static void promise18() {
        VillageLog log = village();
        int[][] want = {
            {NONE, 0, 1, 5, 0, 3, 3},
            {50, 1, 1, 4, 2, 3, 2},
            {NONE, 1, 0, 1, 2, 1, 1},
            {60, 1, 0, 1, 2, 1, 1},
        };
        for (int entry = 0; entry < want.length; entry++) {
            for (int what = 0; what < 7; what++) {
                due("18: entry(" + entry + ", " + what + ")", log.entry(entry, what), want[entry][what]);
            }
        }
        due("18: entry(4, 0)", log.entry(4, 0), BAD);
        due("18: entry(0, 7)", log.entry(0, 7), BAD);
        for (int what : STRANGE) {
            due("18: entry(0, " + what + ")", log.entry(0, what), BAD);
            due("18: entry(" + what + ", 0)", log.entry(what, 0), BAD);
        }
        log.undo();
        due("18: the new council", log.entry(0, 6), 2);
        due("18: the old council", log.entry(0, 5), 3);

        VillageLog calm = Villages.of(5, 4);
        calm.propose(3, 999);
        calm.second(0, 0);
        due("18: in how many copies", calm.entry(0, 3), 2);
        due("18: it is not agreed by two of four", calm.entry(0, 2), 0);
        due("18: 6 as 5 without a change", calm.entry(0, 5) * 10 + calm.entry(0, 6), 22);
        due("18: by whom", calm.entry(0, 4), 3);
    }

    private static void promise19() {
        VillageLog log = village();
        int[][] want = {{1, 3, 4, 0, 1}, {39022, 3, 1, 1, 0}};
        for (int draw = 0; draw < want.length; draw++) {
            for (int what = 0; what < 5; what++) {
                due("19: draw(" + draw + ", " + what + ")", log.draw(draw, what), want[draw][what]);
            }
        }
        due("19: draw(2, 0)", log.draw(2, 0), BAD);
        due("19: draw(0, 5)", log.draw(0, 5), BAD);
        for (int what : STRANGE) {
            due("19: draw(0, " + what + ")", log.draw(0, what), BAD);
            due("19: draw(" + what + ", 0)", log.draw(what, 0), BAD);
        }
        log.come();
        log.setLot(9);
        due("19: the state stays as it was written down", log.draw(1, 0), 39022);
        due("19: so do the candidates", log.draw(1, 1), 3);
        due("19: draw(0, 0) without a draw", Villages.of(3, 2).draw(0, 0), BAD);
    }

    private static void changesNothing() {
        VillageLog log = village();
        String before = Villages.seen(log);
        log.missing(2);
        log.reachable();
        log.nextDrawn(0);
        log.spare();
        log.lotFor(1, 1);
        due("no action", log.count(10), 5);
        due("the text stays", log.count(11), 4);
        CHECKS.holds("looking changes nothing", before.equals(Villages.seen(log)));
    }
}
