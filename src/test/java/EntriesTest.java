/** Promises 8 to 11. */
public final class EntriesTest {
    private static final Checks CHECKS = new Checks();
    private static final int BAD = VillageLog.INVALID_ARGUMENT;
    private static final int ILLEGAL = VillageLog.ILLEGAL_STATE;
    private static final int FULL = VillageLog.CAPACITY_EXCEEDED;

    public static void main(String[] args) {
        promise8();
        promise8WhileAChangeGoesOn();
        promise8AtTheEndOfTheLog();
        promise9();
        promise9Refused();
        promise9AgreesBehindAChange();
        majorities();
        promise10();
        promise11();
        promise11KeepsTheText();
        CHECKS.end("EntriesTest");
    }

    private static void due(String call, long got, long want) {
        CHECKS.due(call, got, want);
    }

    private static void promise8() {
        VillageLog log = Villages.of(3, 0);
        due("8: no council", log.propose(0, 1), ILLEGAL);
        log.found(2);
        due("8: propose(-1, 1)", log.propose(-1, 1), BAD);
        due("8: propose(3, 1)", log.propose(3, 1), BAD);
        due("8: propose(0, -1)", log.propose(0, -1), BAD);
        due("8: propose(0, 1000)", log.propose(0, 1000), BAD);
        due("8: no elder, no number", log.propose(2, 1000), BAD);
        due("8: no elder", log.propose(2, 1), ILLEGAL);
        due("8: history", log.count(10), 4);
        due("8: propose(0, 0)", log.propose(0, 0), 0);
        due("8: history", log.count(10), 5);
        due("8: propose(0, 999)", log.propose(0, 999), 1);
        due("8: the texts", log.entry(0, 0) + log.entry(1, 0), 999);
        due("8: the copy", log.villager(0, 1), 2);
        due("8: not all in the copy", log.propose(1, 5), ILLEGAL);
        log.second(1, 0);
        due("8: still not all in the copy", log.propose(1, 5), ILLEGAL);
        log.second(1, 1);
        due("8: propose(1, 5)", log.propose(1, 5), 2);
        due("8: by whom", log.entry(2, 4), 1);
        due("8: only two are agreed", log.count(5), 2);
        log.second(0, 2);
        log.attend(0, 0);
        due("8: away", log.propose(0, 1), ILLEGAL);
        log.undo();
        due("8: back", log.propose(0, 1), 3);

        VillageLog alone = Villages.of(1, 1);
        due("8: propose(0, 3)", alone.propose(0, 3), 0);
        due("8: agreed at once", alone.entry(0, 2), 1);
    }

    private static void promise8WhileAChangeGoesOn() {
        VillageLog log = Villages.of(4, 2);
        due("8: change(0, 0)", log.change(0, 0), 2);
        due("8: the new elder has not all", log.propose(2, 1), ILLEGAL);
        log.second(2, 0);
        due("8: the new elder proposes", log.propose(2, 1), 1);
        due("8: its term", log.entry(1, 1), 0);
        due("8: the old elder has not all", log.propose(0, 2), ILLEGAL);
        log.second(0, 1);
        due("8: the old elder proposes", log.propose(0, 2), 2);
        due("8: no elder", log.propose(3, 2), ILLEGAL);
        due("8: the last elder", log.second(1, 0), 1);
        due("8: the term", log.count(3), 1);
        due("8: the old elder is none any more", log.propose(0, 3), ILLEGAL);
        log.second(1, 1);
        log.second(1, 2);
        due("8: propose(1, 4)", log.propose(1, 4), 3);
        due("8: its term", log.entry(3, 1), 1);
        due("8: an earlier term", log.entry(2, 1), 0);
    }

    private static void promise8AtTheEndOfTheLog() {
        VillageLog log = Villages.of(2, 1);
        for (int entry = 0; entry < 60; entry++) {
            due("8: propose(0, " + entry + ")", log.propose(0, entry), entry);
        }
        due("8: no room", log.propose(0, 1), FULL);
        due("8: no room, but a bad number first", log.propose(0, 1000), BAD);
        due("8: no room, but no elder first", log.propose(1, 1), ILLEGAL);
        due("8: entries", log.count(4), 60);
        due("8: agreed", log.count(5), 60);
        due("8: the last text", log.entry(59, 0), 59);
    }

    private static void promise9() {
        VillageLog log = Villages.of(6, 5);
        log.propose(0, 1);
        log.propose(0, 2);
        due("9: second(1, 0)", log.second(1, 0), 0);
        due("9: second(1, 1)", log.second(1, 1), 0);
        due("9: second(4, 0)", log.second(4, 0), 1);
        due("9: agreed", log.count(5), 1);
        due("9: entry(1, 2)", log.entry(1, 2), 0);
        due("9: second(3, 0), which is agreed already", log.second(3, 0), 0);
        due("9: the copy has it", log.villager(3, 1), 1);
        due("9: second(3, 1)", log.second(3, 1), 1);
        due("9: agreed", log.count(5), 2);
        due("9: history", log.count(10), 5);
        log.attend(0, 0);
        log.attend(1, 0);
        log.attend(3, 0);
        due("9: propose(4, 3)", log.propose(4, 3), ILLEGAL);
        log.second(4, 1);
        due("9: propose(4, 3)", log.propose(4, 3), 2);
        log.second(2, 0);
        log.second(2, 1);
        due("9: second(2, 2)", log.second(2, 2), 0);
        log.attend(0, 1);
        log.attend(2, 0);
        log.attend(4, 0);
        due("9: those who are away count all the same", log.second(0, 2), 1);
    }

    private static void promise9Refused() {
        VillageLog log = Villages.of(4, 3);
        due("9: no entry", log.second(0, 0), BAD);
        log.propose(0, 1);
        log.propose(0, 2);
        due("9: second(-1, 0)", log.second(-1, 0), BAD);
        due("9: second(4, 0)", log.second(4, 0), BAD);
        due("9: second(1, -1)", log.second(1, -1), BAD);
        due("9: second(1, 2)", log.second(1, 2), BAD);
        due("9: no elder, no entry", log.second(3, 2), BAD);
        due("9: no elder", log.second(3, 0), ILLEGAL);
        due("9: the one who has it", log.second(0, 0), ILLEGAL);
        due("9: not all before it", log.second(1, 1), ILLEGAL);
        due("9: second(1, 0)", log.second(1, 0), 1);
        due("9: a second time", log.second(1, 0), ILLEGAL);
        log.attend(2, 0);
        due("9: away", log.second(2, 0), ILLEGAL);
        due("9: copies", log.entry(0, 3), 2);
        log.attend(2, 1);
        due("9: back", log.second(2, 0), 0);

        VillageLog learner = Villages.of(4, 3);
        learner.propose(0, 1);
        learner.second(1, 0);
        learner.learn(2);
        due("9: who learned it has it", learner.second(2, 0), ILLEGAL);
    }

    private static void promise9AgreesBehindAChange() {
        VillageLog log = Villages.of(4, 2);
        log.propose(0, 1);
        due("9: change(0, 0)", log.change(0, 0), 2);
        log.propose(0, 2);
        log.propose(0, 3);
        for (int entry = 0; entry < 4; entry++) {
            due("9: second(2, " + entry + ") by the new elder", log.second(2, entry), 0);
        }
        due("9: second(1, 0)", log.second(1, 0), 1);
        due("9: the change goes on", log.count(6), 1);
        due("9: second(1, 1)", log.second(1, 1), 1);
        due("9: the term", log.count(3), 1);
        due("9: the old elder cannot second any more", log.second(0, 3), ILLEGAL);
        due("9: second(1, 2)", log.second(1, 2), 1);

        VillageLog many = Villages.of(3, 1);
        due("9: change(0, 0)", many.change(0, 0), 1);
        many.undo();
        many.come();
        many.setLot(2);
        due("9: change(0, 0)", many.change(0, 0), 1 + (2 * 25173 + 13849) % 65536 % 3);
        many.propose(0, 7);
        int drawn = many.elder(1, 0);
        due("9: the change entry alone", many.second(drawn, 0), 1);
        due("9: then the only elder", many.second(drawn, 1), 1);

        VillageLog three = Villages.of(4, 3);
        due("9: change(0, 0)", three.change(0, 0), 3);
        three.propose(0, 7);
        three.propose(0, 8);
        three.second(3, 0);
        three.second(3, 1);
        due("9: three have it, but of the old council only one", three.entry(0, 5), 1);
        due("9: second(1, 0) agrees on the change", three.second(1, 0), 1);
        due("9: second(1, 1) agrees by the new council", three.second(1, 1), 1);
        due("9: agreed", three.count(5), 2);

        VillageLog batch = Villages.of(6, 4);
        due("9: change(0, 1)", batch.change(0, 1), 4);
        batch.propose(0, 7);
        for (int entry = 0; entry < 2; entry++) {
            batch.second(2, entry);
            due("9: three of the new council, two of the old", batch.second(4, entry), 0);
        }
        due("9: second(1, 0) by the old elder agrees on both", batch.second(1, 0), 2);
        due("9: the new council", batch.elder(0, 1), 4);
    }

    private static void majorities() {
        int[] majority = {0, 1, 2, 2, 3, 3};
        for (int size = 1; size <= 5; size++) {
            VillageLog log = Villages.of(size, size);
            log.propose(0, 1);
            for (int elder = 1; elder < size; elder++) {
                due("majority of " + size, log.second(elder, 0), elder + 1 == majority[size] ? 1 : 0);
            }
            due("agreed by " + size, log.count(5), 1);
        }
    }

    private static void promise10() {
        VillageLog log = Villages.of(5, 3);
        due("10: learn(-1)", log.learn(-1), BAD);
        due("10: learn(5)", log.learn(5), BAD);
        due("10: learn(4) of nothing", log.learn(4), 0);
        due("10: history", log.count(10), 5);
        log.propose(0, 1);
        log.propose(0, 2);
        log.propose(0, 3);
        due("10: what is not agreed is not learned", log.learn(4), 0);
        log.second(1, 0);
        log.second(1, 1);
        due("10: learn(4)", log.learn(4), 2);
        due("10: the copy", log.villager(4, 1), 2);
        due("10: learn(4) again", log.learn(4), 0);
        due("10: an elder learns, too", log.learn(2), 2);
        due("10: one who has more keeps it", log.learn(0), 0);
        due("10: the copy", log.villager(0, 1), 3);
        log.attend(3, 0);
        due("10: away", log.learn(3), ILLEGAL);
        due("10: the copy", log.villager(3, 1), 0);
        log.attend(3, 1);
        due("10: who is back has the copy as it is", log.villager(3, 1), 0);
        due("10: learn(3)", log.learn(3), 2);
        log.second(1, 2);
        due("10: only what is missing", log.learn(3), 1);
        due("10: undo()", log.undo(), 4);
        due("10: the copy", log.villager(3, 1), 2);
    }

    private static void promise11() {
        VillageLog log = new VillageLog();
        due("11: empty", log.undo(), ILLEGAL);
        for (int villager = 0; villager < 7; villager++) {
            log.come();
        }
        for (int left = 4; left >= 0; left--) {
            due("11: undo()", log.undo(), left);
            due("11: villagers", log.count(0), left + 2);
            due("11: states", log.count(10), left);
        }
        due("11: the oldest ones are dropped", log.undo(), ILLEGAL);
        due("11: villagers", log.count(0), 2);

        VillageLog deep = afterSteps(5);
        for (int left = 4; left >= 0; left--) {
            due("11: undo()", deep.undo(), left);
            CHECKS.holds("11: the state " + left, Villages.seen(afterSteps(left)).equals(Villages.seen(deep)));
        }
        due("11: empty", deep.undo(), ILLEGAL);
        due("11: change(2, 1)", deep.change(2, 1), 3);
        due("11: undo()", deep.undo(), 0);
        CHECKS.holds("11: the first state", Villages.seen(afterSteps(0)).equals(Villages.seen(deep)));
    }

    /** A village in which so many of five actions were done; a new one, since an object serves for 512 calls alone. */
    private static VillageLog afterSteps(int steps) {
        VillageLog log = Villages.of(5, 3);
        for (int step = 0; step < steps; step++) {
            switch (step) {
                case 0: due("11: change(0, 1)", log.change(0, 1), 3); break;
                case 1: due("11: forge(4)", log.forge(4), 3); break;
                case 2: due("11: second(2, 0)", log.second(2, 0), 1); break;
                case 3: due("11: learn(1)", log.learn(1), 1); break;
                default: due("11: propose(0, 6)", log.propose(0, 6), 1); break;
            }
        }
        return log;
    }

    private static void promise11KeepsTheText() {
        VillageLog log = Villages.of(1, 1);
        Villages.write(log, "p0:4;");
        due("11: undo()", log.undo(), 1);
        due("11: the text stays", log.count(11), 5);
        due("11: found(1)", log.found(1), 1);
        due("11: run()", log.run(), 1);
        due("11: undo() of a run", log.undo(), 2);
        due("11: the text stays empty", log.count(11), 0);
        due("11: the entry is gone", log.count(4), 0);
    }
}
