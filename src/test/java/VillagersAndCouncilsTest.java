/** Promises 1 to 7. */
public final class VillagersAndCouncilsTest {
    private static final Checks CHECKS = new Checks();
    private static final int BAD = VillageLog.INVALID_ARGUMENT;
    private static final int ILLEGAL = VillageLog.ILLEGAL_STATE;
    private static final int FULL = VillageLog.CAPACITY_EXCEEDED;
    private static final int NONE = VillageLog.NONE;

    public static void main(String[] args) {
        promise1();
        promise2();
        promise3();
        promise4();
        promise5();
        promise6();
        promise6Refused();
        promise6AtTheEndOfTheLog();
        promise6DrawsByTheLot();
        promise7();
        promise7Refused();
        promise7Agrees();
        CHECKS.end("VillagersAndCouncilsTest");
    }

    private static void due(String call, long got, long want) {
        CHECKS.due(call, got, want);
    }

    private static void promise1() {
        VillageLog log = new VillageLog();
        int[] counts = {0, 0, 0, 0, 0, 0, 0, 1, 0, 0, 0, 0};
        for (int what = 0; what < counts.length; what++) {
            due("1: count(" + what + ")", log.count(what), counts[what]);
        }
        due("1: elder(0, 0)", log.elder(0, 0), BAD);
        due("1: villager(0, 0)", log.villager(0, 0), BAD);
        due("1: entry(0, 0)", log.entry(0, 0), BAD);
        due("1: draw(0, 0)", log.draw(0, 0), BAD);
        due("1: run()", log.run(), 0);
        VillageLog other = new VillageLog();
        other.come();
        due("1: villagers of another object", log.count(0), 0);
    }

    private static void promise2() {
        VillageLog log = new VillageLog();
        for (int villager = 0; villager < 12; villager++) {
            due("2: come()", log.come(), villager);
            due("2: present", log.villager(villager, 0), 1);
            due("2: copy", log.villager(villager, 1), 0);
            due("2: history", log.count(10), Math.min(5, villager + 1));
        }
        due("2: come() of a 13th", log.come(), FULL);
        due("2: villagers", log.count(0), 12);
        due("2: undo()", log.undo(), 4);
        due("2: villagers", log.count(0), 11);
        due("2: come()", log.come(), 11);

        VillageLog agreed = Villages.of(1, 1);
        agreed.propose(0, 5);
        due("2: come() later", agreed.come(), 1);
        due("2: the copy is empty all the same", agreed.villager(1, 1), 0);
        due("2: nor is the villager an elder", agreed.villager(1, 2), NONE);
    }

    private static void promise3() {
        VillageLog log = new VillageLog();
        due("3: nobody", log.attend(0, 0), BAD);
        log.come();
        log.come();
        log.come();
        due("3: attend(-1, 0)", log.attend(-1, 0), BAD);
        due("3: attend(3, 0)", log.attend(3, 0), BAD);
        due("3: attend(0, 2)", log.attend(0, 2), BAD);
        due("3: attend(0, -1)", log.attend(0, -1), BAD);
        due("3: attend(0, MIN)", log.attend(0, Integer.MIN_VALUE), BAD);
        due("3: attend(MAX, 1)", log.attend(Integer.MAX_VALUE, 1), BAD);
        due("3: attend(0, 1) already", log.attend(0, 1), ILLEGAL);
        due("3: history", log.count(10), 3);
        due("3: attend(1, 0)", log.attend(1, 0), 2);
        due("3: history", log.count(10), 4);
        due("3: attend(1, 0) already", log.attend(1, 0), ILLEGAL);
        due("3: villager(1, 0)", log.villager(1, 0), 0);
        due("3: attend(0, 0)", log.attend(0, 0), 1);
        due("3: attend(2, 0)", log.attend(2, 0), 0);
        due("3: attend(1, 1)", log.attend(1, 1), 1);
        due("3: villager(1, 0)", log.villager(1, 0), 1);
        due("3: undo()", log.undo(), 4);
        due("3: villager(1, 0)", log.villager(1, 0), 0);
    }

    private static void promise4() {
        VillageLog log = new VillageLog();
        due("4: found(0)", log.found(0), BAD);
        due("4: found(6)", log.found(6), BAD);
        due("4: found(MIN)", log.found(Integer.MIN_VALUE), BAD);
        due("4: found(1) without villagers", log.found(1), ILLEGAL);
        for (int villager = 0; villager < 4; villager++) {
            log.come();
        }
        due("4: found(5) with 4", log.found(5), ILLEGAL);
        log.attend(0, 0);
        due("4: history", log.count(10), 5);
        due("4: found(4)", log.found(4), 4);
        due("4: the size", log.count(2), 4);
        for (int seat = 0; seat < 4; seat++) {
            due("4: elder(0, " + seat + ")", log.elder(0, seat), seat);
            due("4: seat of " + seat, log.villager(seat, 2), seat);
        }
        due("4: elder(0, 4)", log.elder(0, 4), BAD);
        due("4: found(1) again", log.found(1), ILLEGAL);
        due("4: found(9) again", log.found(9), BAD);
        due("4: undo()", log.undo(), 4);
        due("4: the size", log.count(2), 0);
        log.come();
        due("4: found(5)", log.found(5), 5);
        due("4: elder(0, 4)", log.elder(0, 4), 4);
        due("4: found(1) of one", Villages.of(1, 0).found(1), 1);
    }

    private static void promise5() {
        VillageLog log = new VillageLog();
        due("5: setLot(65535)", log.setLot(65535), 1);
        due("5: setLot(0)", log.setLot(0), 65535);
        due("5: setLot(-1)", log.setLot(-1), BAD);
        due("5: setLot(65536)", log.setLot(65536), BAD);
        due("5: history", log.count(10), 2);
        due("5: the same state", log.setLot(0), 0);
        due("5: is an action", log.count(10), 3);
        due("5: count(7)", log.count(7), 0);
        due("5: undo()", log.undo(), 2);
        due("5: undo()", log.undo(), 1);
        due("5: count(7)", log.count(7), 65535);
    }

    private static void promise6() {
        VillageLog log = Villages.of(6, 3);
        log.setLot(7);
        // 7 * 25173 + 13849 = 190060, modulo 65536 = 58988, modulo 3 candidates = 2
        due("6: change(1, 0)", log.change(1, 0), 5);
        due("6: the lot", log.count(7), 58988);
        due("6: a change goes on", log.count(6), 1);
        due("6: old seat", log.elder(0, 0), 0);
        due("6: new seat", log.elder(1, 0), 5);
        due("6: the rest", log.elder(1, 1) * 10 + log.elder(1, 2), 12);
        due("6: entries", log.count(4), 1);
        due("6: a change entry", log.entry(0, 0), NONE);
        due("6: its term", log.entry(0, 1), 0);
        due("6: it is proposed", log.entry(0, 2), 0);
        due("6: by the elder", log.entry(0, 4), 1);
        due("6: whose copy has it", log.villager(1, 1), 1);
        due("6: the term", log.count(3), 0);
        due("6: another change", log.change(1, 1), ILLEGAL);
        due("6: second(0, 0), a majority of the old council alone", log.second(0, 0), 0);
        due("6: second(5, 0)", log.second(5, 0), 1);
        due("6: the change is over", log.count(6), 0);
        due("6: the term", log.count(3), 1);
        due("6: the new elder", log.elder(0, 0), 5);
        due("6: no new council", log.elder(1, 0), NONE);
        due("6: no elder any more", log.change(0, 1), ILLEGAL);
        due("6: undo()", log.undo(), 4);
        due("6: the change goes on", log.count(6), 1);
        log.undo();
        due("6: undo()", log.undo(), 2);
        due("6: draws", log.count(8), 0);
        due("6: the lot", log.count(7), 7);
        due("6: elder(1, 0)", log.elder(1, 0), NONE);

        VillageLog away = Villages.of(2, 1);
        away.attend(1, 0);
        due("6: one who is away can be drawn", away.change(0, 0), 1);
    }

    private static void promise6Refused() {
        VillageLog log = Villages.of(4, 0);
        due("6: without a council there is no seat", log.change(0, 0), BAD);
        log.found(3);
        due("6: change(-1, 0)", log.change(-1, 0), BAD);
        due("6: change(4, 0)", log.change(4, 0), BAD);
        due("6: change(0, -1)", log.change(0, -1), BAD);
        due("6: change(0, 3)", log.change(0, 3), BAD);
        due("6: no elder, no seat", log.change(3, 3), BAD);
        due("6: no elder", log.change(3, 0), ILLEGAL);
        log.attend(0, 0);
        due("6: away", log.change(0, 0), ILLEGAL);
        log.attend(0, 1);
        log.propose(0, 9);
        due("6: not all entries in the copy", log.change(1, 0), ILLEGAL);
        due("6: draws", log.count(8), 0);
        due("6: the lot", log.count(7), 1);
        due("6: change(0, 2)", log.change(0, 2), 3);
        due("6: the new elder is none of the old council", log.change(3, 0), ILLEGAL);
        due("6: no such seat while a change goes on", log.change(0, 3), BAD);

        VillageLog full = Villages.of(3, 3);
        due("6: no candidate", full.change(0, 0), ILLEGAL);
        full.come();
        due("6: one candidate", full.change(0, 0), 3);
    }

    private static void promise6AtTheEndOfTheLog() {
        VillageLog log = Villages.of(2, 1);
        for (int entry = 0; entry < 59; entry++) {
            log.propose(0, entry);
        }
        due("6: change(0, 0) as the last entry", log.change(0, 0), 1);
        due("6: entries", log.count(4), 60);
        due("6: undo()", log.undo(), 4);
        due("6: propose(0, 1)", log.propose(0, 1), 59);
        due("6: no room", log.change(0, 0), FULL);
        due("6: no room, but no such seat first", log.change(0, 1), BAD);
        due("6: no room, but no elder first", log.change(1, 0), ILLEGAL);
        due("6: the lot does not move", log.count(7), 1);
        due("6: no draw", log.count(8), 0);
        due("6: no change goes on", log.count(6), 0);
        due("6: entries", log.count(4), 60);
        due("6: history", log.count(10), 5);

        VillageLog alone = Villages.of(1, 1);
        for (int entry = 0; entry < 60; entry++) {
            alone.propose(0, entry);
        }
        due("6: no room, but no candidate first", alone.change(0, 0), ILLEGAL);
    }

    private static void promise6DrawsByTheLot() {
        for (int villagers = 2; villagers <= 12; villagers++) {
            for (int size = 1; size <= 5 && size < villagers; size++) {
                for (int lot = 0; lot < 65536; lot += 4099) {
                    VillageLog log = Villages.of(villagers, size);
                    log.setLot(lot);
                    long next = (lot * 25173L + 13849L) % 65536L;
                    due("6: change of " + size + " of " + villagers + " by " + lot, log.change(0, size - 1), size + next % (villagers - size));
                    due("6: the lot", log.count(7), next);
                }
            }
        }
        VillageLog log = Villages.of(5, 3);
        log.change(1, 0);
        log.second(0, 0);
        log.second(2, 0);
        due("6: the first new elder", log.elder(0, 0), 3);
        log.setLot(0);
        // the candidates are now 0 and 4, and 13849 is odd
        due("6: change(1, 1)", log.change(1, 1), 4);
        log.undo();
        log.setLot(1);
        due("6: the one who went can be drawn again", log.change(1, 1), 0);
    }

    private static void promise7() {
        VillageLog log = Villages.of(6, 3);
        due("7: change(0, 1)", log.change(0, 1), 4);
        due("7: forge(5)", log.forge(5), 4);
        due("7: new seat", log.elder(1, 1), 5);
        due("7: old seat", log.elder(0, 1), 1);
        due("7: it can be told", log.draw(0, 3), 1);
        due("7: forged draws", log.count(9), 1);
        due("7: draws", log.count(8), 1);
        due("7: candidates", log.draw(0, 1), 3);
        due("7: 4 has no seat", log.villager(4, 3), NONE);
        due("7: forge(3)", log.forge(3), 5);
        due("7: forge(4), who was drawn", log.forge(4), 3);
        due("7: it is not forged then", log.draw(0, 3), 0);
        due("7: forged draws", log.count(9), 0);
        due("7: history", log.count(10), 5);
        due("7: come()", log.come(), 6);
        due("7: forge(6), who came later", log.forge(6), 4);
        log.attend(5, 0);
        due("7: forge(5), who is away", log.forge(5), 6);
        due("7: the lot did not move", log.count(7), 39022);
        due("7: undo()", log.undo(), 4);
        due("7: new seat", log.elder(1, 1), 6);
        due("7: draw(0, 2)", log.draw(0, 2), 6);
    }

    private static void promise7Refused() {
        VillageLog log = Villages.of(5, 3);
        due("7: no change", log.forge(3), ILLEGAL);
        due("7: forge(-1)", log.forge(-1), BAD);
        due("7: forge(5)", log.forge(5), BAD);
        log.change(0, 2);
        due("7: the drawn one", log.forge(3), ILLEGAL);
        due("7: an elder of both", log.forge(0), ILLEGAL);
        due("7: the elder of the old one", log.forge(2), ILLEGAL);
        due("7: forge(5)", log.forge(5), BAD);
        log.second(1, 0);
        due("7: the change is over", log.count(6), 0);
        due("7: forge(4) too late", log.forge(4), ILLEGAL);
        due("7: forged draws", log.count(9), 0);
    }

    private static void promise7Agrees() {
        VillageLog log = Villages.of(3, 1);
        due("7: change(0, 0)", log.change(0, 0), 1);
        due("7: forge(2)", log.forge(2), 1);
        due("7: propose(0, 8)", log.propose(0, 8), 1);
        due("7: forge(1)", log.forge(1), 2);
        due("7: history", log.count(10), 5);

        VillageLog two = Villages.of(4, 2);
        due("7: change(0, 0)", two.change(0, 0), 2);
        due("7: second(2, 0)", two.second(2, 0), 0);
        due("7: propose(2, 8)", two.propose(2, 8), 1);
        due("7: forge(3)", two.forge(3), 2);
        due("7: second(1, 0), a majority of the old one", two.second(1, 0), 0);
        due("7: second(1, 1)", two.second(1, 1), 0);
        due("7: nothing is agreed", two.count(5), 0);
        due("7: forge(2), who has the entry", two.forge(2), 3);
        due("7: both entries are agreed at once", two.count(5), 2);
        due("7: the change is over", two.count(6), 0);
        due("7: the term", two.count(3), 1);
        due("7: elder(0, 0)", two.elder(0, 0), 2);
        due("7: entry(1, 1)", two.entry(1, 1), 0);
        due("7: undo()", two.undo(), 4);
        due("7: nothing is agreed", two.count(5), 0);
        due("7: elder(1, 0)", two.elder(1, 0), 3);
    }
}
