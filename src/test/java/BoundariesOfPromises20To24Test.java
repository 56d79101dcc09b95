/** The boundary cases that stand under the promises 20 to 24. */
public final class BoundariesOfPromises20To24Test extends Boundaries {
    private static final String MISSING = "Promise 20: missing";
    private static final String REACHABLE = "Promise 21: reachable";
    private static final String NEXT_DRAWN = "Promise 22: nextDrawn";
    private static final String SPARE = "Promise 23: spare";
    private static final String LOT_FOR = "Promise 24: lotFor";

    public static void main(String[] args) {
        missingTheSmallestNumber();
        missingOfBothCouncils();
        missingOfAnElderWhoLeaves();
        missingOnlyTheNewCouncilBehindTheChange();
        missingBePresentOrNot();
        missing0IfAgreed();
        missingNoSuchEntry();
        reachableOfThosePresent();
        reachableOfAFullLog();
        reachableAcrossAChange();
        reachableNothing();
        nextDrawnIfAChangeBeganNow();
        nextDrawnNoSuchSeat();
        nextDrawnIfAChangeGoesOn();
        nextDrawnNoCandidate();
        spareOfEachSize();
        spareWhileAChangeGoesOn();
        spareBeginningWithAllPresent();
        spareWithoutACouncil();
        lotForTheSmallestState();
        lotForNoSuchVillagerOrSeat();
        lotForIfAChangeGoesOn();
        lotForNone();
        end("BoundariesOfPromises20To24Test");
    }

    private static void missingTheSmallestNumber() {
        says(MISSING, "as if all entries before it were agreed");
        for (int size = 1; size <= 5; size++) {
            VillageLog log = Villages.of(size, size);
            Villages.propose(log, 0, 60);
            for (int having = 1; having < MAJORITY[size]; having++) {
                due("the last entry, " + having + " of " + size, log.missing(59), MAJORITY[size] - 1);
                due("the first one, " + having + " of " + size, log.missing(0), MAJORITY[size] - having);
                log.second(having, 0);
            }
            due("the first one is agreed", log.missing(0), 0);
            due("the last entry of " + size, log.missing(59), MAJORITY[size] - 1);
        }
    }

    private static void missingOfBothCouncils() {
        says(MISSING, "Tells how many elders would still have to second an entry, so that it is agreed");
        VillageLog log = Villages.of(6, 5);
        log.change(0, 4);
        due("two elders of both", log.missing(0), 2);
        log.second(5, 0);
        due("two of the old one, and one of them is of both", log.missing(0), 2);
        log.second(4, 0);
        due("one of both", log.missing(0), 1);
        due("second(1, 0)", log.second(1, 0), 1);
        due("none", log.missing(0), 0);

        VillageLog two = Villages.of(3, 2);
        two.change(0, 1);
        due("one of each", two.missing(0), 2);
        two.second(1, 0);
        due("the new one", two.missing(0), 1);
        VillageLog one = Villages.of(2, 1);
        one.propose(0, 1);
        one.change(0, 0);
        due("the only new one", one.missing(1), 1);
    }

    private static void missingOfAnElderWhoLeaves() {
        says(MISSING, "the smallest number of elders");
        VillageLog log = Villages.of(5, 4);
        log.change(3, 3);
        due("of the old one two, of the new one three", log.missing(0), 3);
        log.second(0, 0);
        due("of the old one one, of the new one two", log.missing(0), 2);
        log.second(4, 0);
        due("one of both", log.missing(0), 1);
    }

    private static void missingOnlyTheNewCouncilBehindTheChange() {
        says(MISSING, "(so only the new council counts, if the change entry that is not agreed is before it)");
        VillageLog log = Villages.of(6, 5);
        log.propose(0, 1);
        log.change(0, 4);
        log.propose(0, 2);
        Villages.second(log, 5, 0, 2);
        due("before it the old council wants two", log.missing(0), 2);
        due("the change entry itself, too", log.missing(1), 2);
        due("behind it the new council wants one", log.missing(2), 1);
        Villages.second(log, 4, 0, 2);
        due("before it the old elder counts", log.missing(0), 1);
        due("behind it not", log.missing(2), 1);
        due("second(1, 0)", log.second(1, 0), 1);
        due("second(1, 1), the change", log.second(1, 1), 1);
        due("after the change", log.missing(2), 1);
        due("second(1, 2)", log.second(1, 2), 1);

        VillageLog none = Villages.of(4, 3);
        none.change(0, 2);
        none.propose(0, 1);
        Villages.second(none, 3, 0, 1);
        due("the change wants one", none.missing(0), 1);
        due("none is missing behind it", none.missing(1), 0);
        due("though it is not agreed", none.entry(1, 2), 0);

        VillageLog old = Villages.of(2, 1);
        old.change(0, 0);
        old.propose(0, 1);
        due("the only elder of the new one", old.missing(1), 1);
        old.undo();
        old.second(1, 0);
        old.propose(1, 1);
        due("an earlier change that is agreed does not count", old.missing(1), 0);
    }

    private static void missingBePresentOrNot() {
        says(MISSING, "be they present or not.");
        VillageLog log = Villages.of(5, 5);
        log.propose(0, 1);
        for (int elder = 1; elder < 5; elder++) {
            log.attend(elder, 0);
            due("elders away: " + elder, log.missing(0), 2);
        }
        log.attend(0, 0);
        due("all away", log.missing(0), 2);
    }

    private static void missing0IfAgreed() {
        says(MISSING, "Returns the number, 0 if it is agreed");
        VillageLog log = Villages.of(6, 5);
        Villages.propose(log, 0, 2);
        Villages.second(log, 1, 0, 0);
        due("two of five", log.missing(0), 1);
        log.second(2, 0);
        due("three of five", log.missing(0), 0);
        due("the next one", log.missing(1), 2);
        Villages.second(log, 1, 1, 1);
        log.change(1, 1);
        due("agreed before a change", log.missing(0), 0);
        Villages.second(log, 2, 1, 1);
        due("three of the old council, two of the new one", log.missing(1), 1);
        Villages.second(log, 3, 0, 1);
        due("agreed while it goes on", log.missing(1), 0);
        due("it goes on", log.count(6), 1);
    }

    private static void missingNoSuchEntry() {
        says(MISSING, "INVALID_ARGUMENT if there is no such entry.");
        due("without a council", new VillageLog().missing(0), BAD);
        VillageLog log = Villages.of(2, 2);
        due("an empty log", log.missing(0), BAD);
        log.propose(0, 1);
        due("the last entry", log.missing(0), 1);
        due("the one behind it", log.missing(1), BAD);
        for (int strange : STRANGE) {
            due("missing(" + strange + ")", log.missing(strange), BAD);
        }
        Villages.propose(log, 0, 59);
        due("the last of 60", log.missing(59), 1);
        due("the entry 60", log.missing(60), BAD);
    }

    private static void reachableOfThosePresent() {
        says(REACHABLE, "if all elders who are present seconded all that they can.");
        for (int size = 1; size <= 5; size++) {
            VillageLog log = Villages.of(size, size);
            Villages.propose(log, 0, 2);
            int more = size == 1 ? 0 : 2;
            for (int present = size; present >= 1; present--) {
                due(present + " present of " + size, log.reachable(), present >= MAJORITY[size] ? more : 0);
                if (present > 1) {
                    log.attend(present - 1, 0);
                }
            }
        }
        VillageLog one = Villages.of(3, 3);
        one.propose(0, 1);
        one.attend(0, 0);
        one.attend(2, 0);
        due("one is present, and one who is away has it", one.reachable(), 1);
        one.attend(1, 0);
        due("nobody is present", one.reachable(), 0);
    }

    private static void reachableOfAFullLog() {
        says(REACHABLE, "Tells how many more entries would be agreed");
        VillageLog log = Villages.of(2, 2);
        Villages.propose(log, 0, 60);
        due("all 60", log.reachable(), 60);
        Villages.second(log, 1, 0, 58);
        due("the last one", log.reachable(), 1);
        log.second(1, 59);
        due("none more", log.reachable(), 0);
    }

    private static void reachableAcrossAChange() {
        says(REACHABLE, "if all elders who are present seconded all that they can.");
        VillageLog log = Villages.of(4, 3);
        log.propose(0, 1);
        due("change(0, 0)", log.change(0, 0), 3);
        Villages.propose(log, 0, 2);
        due("all are present", log.reachable(), 4);
        log.attend(3, 0);
        due("the new elder is away", log.reachable(), 4);
        log.attend(2, 0);
        due("only the one who leaves and one of both", log.reachable(), 0);
        log.attend(3, 1);
        due("the one who leaves, the new one and one of both", log.reachable(), 4);
        log.attend(0, 0);
        due("the one who leaves has them, though away", log.reachable(), 4);
        log.attend(1, 0);
        due("only the new one", log.reachable(), 0);
        VillageLog after = Villages.of(4, 3);
        after.change(0, 0);
        after.propose(0, 1);
        after.attend(0, 0);
        after.attend(3, 0);
        after.second(1, 0);
        due("the change entry and one behind it", after.reachable(), 2);
        after.attend(2, 0);
        due("one of the new council alone", after.reachable(), 0);
        VillageLog stops = Villages.of(3, 1);
        stops.change(0, 0);
        stops.propose(0, 1);
        Villages.second(stops, 1, 0, 0);
        stops.attend(1, 0);
        due("behind the change the one who left does not count", stops.reachable(), 0);
    }

    private static void reachableNothing() {
        says(REACHABLE, "Returns the number.");
        due("without villagers", new VillageLog().reachable(), 0);
        due("without a council", Villages.of(5, 0).reachable(), 0);
        due("without entries", Villages.of(5, 5).reachable(), 0);
        VillageLog log = Villages.of(1, 1);
        log.propose(0, 1);
        due("all agreed", log.reachable(), 0);
    }

    private static void nextDrawnIfAChangeBeganNow() {
        says(NEXT_DRAWN, "Tells who would be drawn next for a seat, if a change began now.");
        int[] states = {0, 1, 32768, 65535, stateBefore(0), stateBefore(65535)};
        for (int state : states) {
            for (int villagers = 6; villagers <= 12; villagers++) {
                VillageLog log = Villages.of(villagers, 5);
                log.setLot(state);
                int due = 5 + after(state) % (villagers - 5);
                due("the first seat", log.nextDrawn(0), due);
                due("the last seat", log.nextDrawn(4), due);
                due("the lot", log.count(7), state);
                due("change(0, 4)", log.change(0, 4), due);
            }
        }
    }

    private static void nextDrawnNoSuchSeat() {
        says(NEXT_DRAWN, "INVALID_ARGUMENT if there is no such seat");
        for (int size = 0; size <= 5; size++) {
            VillageLog log = Villages.of(6, size);
            due("behind the last of " + size, log.nextDrawn(size), BAD);
            for (int strange : STRANGE) {
                due("nextDrawn(" + strange + ")", log.nextDrawn(strange), BAD);
            }
        }
        VillageLog log = Villages.of(6, 5);
        log.change(0, 0);
        due("while a change goes on", log.nextDrawn(5), BAD);
    }

    private static void nextDrawnIfAChangeGoesOn() {
        says(NEXT_DRAWN, "ILLEGAL_STATE if a change goes on");
        VillageLog log = Villages.of(2, 1);
        due("before it", log.nextDrawn(0), 1);
        log.change(0, 0);
        due("while it goes on", log.nextDrawn(0), ILLEGAL);
        log.second(1, 0);
        due("after it", log.nextDrawn(0), 0);
        log.undo();
        due("when it is open again", log.nextDrawn(0), ILLEGAL);
    }

    private static void nextDrawnNoCandidate() {
        says(NEXT_DRAWN, "NONE if there is no candidate.");
        for (int size = 1; size <= 5; size++) {
            VillageLog log = Villages.of(size, size);
            due("all are in the council of " + size, log.nextDrawn(size - 1), NONE);
            log.come();
            due("one candidate", log.nextDrawn(size - 1), size);
            log.attend(size, 0);
            due("who is away", log.nextDrawn(size - 1), size);
        }
    }

    private static void spareOfEachSize() {
        says(SPARE, "so that the present elders could still agree on an entry (all copies being alike");
        for (int size = 1; size <= 5; size++) {
            for (int villagers = size; villagers <= 12; villagers++) {
                due(size + " of " + villagers, Villages.of(villagers, size).spare(), villagers - MAJORITY[size]);
            }
        }
    }

    private static void spareWhileAChangeGoesOn() {
        says(SPARE, "while a change goes on, by majorities of both councils)");
        int[] wanted = {0, 2, 3, 2, 3, 3};
        for (int size = 1; size <= 5; size++) {
            for (int villagers = size + 1; villagers <= 12; villagers++) {
                VillageLog log = Villages.of(villagers, size);
                log.change(0, size - 1);
                due(size + " of " + villagers, log.spare(), villagers - wanted[size]);
                log.propose(0, 1);
                due("and with an entry behind it", log.spare(), villagers - wanted[size]);
            }
        }
    }

    private static void spareBeginningWithAllPresent() {
        says(SPARE, "the greatest number, beginning with all villagers being present.");
        VillageLog log = Villages.of(7, 5);
        Villages.propose(log, 0, 3);
        for (int villager = 0; villager < 7; villager++) {
            due("away: " + villager, log.spare(), 4);
            log.attend(villager, 0);
        }
        due("all away", log.spare(), 4);
    }

    private static void spareWithoutACouncil() {
        says(SPARE, "NONE if there is no council.");
        for (int villagers = 0; villagers <= 12; villagers++) {
            VillageLog log = Villages.of(villagers, 0);
            due("of " + villagers, log.spare(), NONE);
        }
        VillageLog log = Villages.of(1, 1);
        due("with one", log.spare(), 0);
        log.undo();
        due("when it is undone", log.spare(), NONE);
    }

    private static void lotForTheSmallestState() {
        says(LOT_FOR, "Finds the smallest state of the lot with which the next draw would draw a villager for a seat.");
        for (int size = 1; size <= 5; size++) {
            for (int villagers = size + 1; villagers <= 12; villagers++) {
                VillageLog log = Villages.of(villagers, size);
                for (int villager = size; villager < villagers; villager++) {
                    int due = stateFor(villager - size, villagers - size);
                    due(villager + " of " + villagers + " for the first seat", log.lotFor(villager, 0), due);
                    due(villager + " of " + villagers + " for the last seat", log.lotFor(villager, size - 1), due);
                }
            }
        }
        VillageLog log = Villages.of(6, 3);
        log.change(0, 1);
        log.second(2, 0);
        int[] candidates = {1, 3, 5};
        for (int place = 0; place < 3; place++) {
            due("whom a change has left: " + candidates[place], log.lotFor(candidates[place], 0), stateFor(place, 3));
        }
        due("the lot", log.count(7), after(1));
    }

    private static void lotForNoSuchVillagerOrSeat() {
        says(LOT_FOR, "INVALID_ARGUMENT if there is no such villager or seat");
        due("without a council", Villages.of(3, 0).lotFor(0, 0), BAD);
        VillageLog log = Villages.of(12, 5);
        due("the last villager and seat", log.lotFor(11, 4), stateFor(6, 7));
        due("the villager 12", log.lotFor(12, 4), BAD);
        due("the seat 5", log.lotFor(11, 5), BAD);
        for (int strange : STRANGE) {
            due("lotFor(" + strange + ", 0)", log.lotFor(strange, 0), BAD);
            due("lotFor(11, " + strange + ")", log.lotFor(11, strange), BAD);
        }
        due("an elder for no seat", log.lotFor(0, 5), BAD);
        log.change(0, 0);
        due("no villager while a change goes on", log.lotFor(12, 0), BAD);
        due("no seat while a change goes on", log.lotFor(0, 5), BAD);
    }

    private static void lotForIfAChangeGoesOn() {
        says(LOT_FOR, "ILLEGAL_STATE if a change goes on");
        VillageLog log = Villages.of(3, 1);
        due("before it", log.lotFor(2, 0), stateFor(1, 2));
        due("change(0, 0)", log.change(0, 0), 1);
        for (int villager = 0; villager < 3; villager++) {
            due("while it goes on", log.lotFor(villager, 0), ILLEGAL);
        }
        log.second(1, 0);
        due("after it", log.lotFor(0, 0), stateFor(0, 2));
    }

    private static void lotForNone() {
        says(LOT_FOR, "NONE if there is none.");
        for (int size = 1; size <= 5; size++) {
            VillageLog all = Villages.of(size, size);
            VillageLog log = Villages.of(12, size);
            for (int elder = 0; elder < size; elder++) {
                due("no candidate", all.lotFor(elder, size - 1), NONE);
                due("an elder of another seat or of this one", log.lotFor(elder, size - 1), NONE);
                due("an elder of another seat or of this one", log.lotFor(elder, 0), NONE);
            }
        }
    }
}
