/** The boundary cases that stand under the promises 1 to 7. */
public final class BoundariesOfPromises1To7Test extends Boundaries {
    private static final String NEW = "Promise 1: A new object";
    private static final String COME = "Promise 2: come";
    private static final String ATTEND = "Promise 3: attend";
    private static final String FOUND = "Promise 4: found";
    private static final String SET_LOT = "Promise 5: setLot";
    private static final String CHANGE = "Promise 6: change";
    private static final String FORGE = "Promise 7: forge";
    private static final String ACTION = "This is an action.";

    public static void main(String[] args) {
        newWithoutVillagersCouncilAndEntries();
        newRefusesWhatNeedsThem();
        newIsAnotherObject();
        comeLetsAVillagerComeWhoIsPresent();
        comeIsAnAction();
        comeReturnsTheNumber();
        comeIfThereAre12();
        attendIsAnAction();
        attendIs1Or0();
        attendReturnsThePresent();
        attendOutOfRange();
        attendIfItIsSoAlready();
        foundSetsTheVillagersOnTheirSeats();
        foundIsAnAction();
        foundSize1To5();
        foundReturnsTheSize();
        foundSizeOutOfRange();
        foundIfThereIsACouncil();
        foundIfThereAreNotSoMany();
        setLotIsAnAction();
        setLotState0To65535();
        setLotReturnsThePrevious();
        setLotOutOfRange();
        changeBeginsAChange();
        changeIsAnAction();
        changeOfTheFirstAndTheLastSeat();
        changeReturnsTheDrawn();
        changeNoSuchVillagerOrSeat();
        changeIfAChangeGoesOn();
        changeIfNoElderOrAway();
        changeIfNotAllEntries();
        changeIfNoCandidate();
        changeIfThereAre60Entries();
        forgePutsAnotherCandidate();
        forgeIsAnAction();
        forgeReturnsWhoWasThere();
        forgeNoSuchVillager();
        forgeIfNoChangeGoesOn();
        forgeIfInACouncil();
        end("BoundariesOfPromises1To7Test");
    }

    private static void newWithoutVillagersCouncilAndEntries() {
        says(NEW, "Creates a village without villagers, with an empty council and an empty log.");
        VillageLog log = new VillageLog();
        for (int what = 0; what < 12; what++) {
            due("count(" + what + ")", log.count(what), what == 7 ? 1 : 0);
        }
        due("elder(0, 0)", log.elder(0, 0), BAD);
        due("elder(1, 0)", log.elder(1, 0), BAD);
        due("villager(0, 0)", log.villager(0, 0), BAD);
        due("entry(0, 0)", log.entry(0, 0), BAD);
        due("draw(0, 0)", log.draw(0, 0), BAD);
        due("missing(0)", log.missing(0), BAD);
        due("reachable()", log.reachable(), 0);
        due("nextDrawn(0)", log.nextDrawn(0), BAD);
        due("spare()", log.spare(), NONE);
        due("lotFor(0, 0)", log.lotFor(0, 0), BAD);
        due("clearText()", log.clearText(), 0);
    }

    private static void newRefusesWhatNeedsThem() {
        says(NEW, "Creates a village without villagers, with an empty council and an empty log.");
        VillageLog log = new VillageLog();
        due("attend(0, 0)", log.attend(0, 0), BAD);
        due("found(1)", log.found(1), ILLEGAL);
        due("change(0, 0)", log.change(0, 0), BAD);
        due("forge(0)", log.forge(0), BAD);
        due("propose(0, 0)", log.propose(0, 0), BAD);
        due("second(0, 0)", log.second(0, 0), BAD);
        due("learn(0)", log.learn(0), BAD);
        due("undo()", log.undo(), ILLEGAL);
        due("states", log.count(10), 0);
    }

    private static void newIsAnotherObject() {
        says(NEW, "Creates a village without villagers, with an empty council and an empty log.");
        VillageLog first = Villages.of(3, 2);
        first.propose(0, 1);
        first.append('x');
        VillageLog second = new VillageLog();
        due("villagers", second.count(0), 0);
        due("entries", second.count(4), 0);
        due("the text", second.count(11), 0);
        second.come();
        due("villagers of the first", first.count(0), 3);
    }

    private static void comeLetsAVillagerComeWhoIsPresent() {
        says(COME, "Lets a villager come, who is present.");
        VillageLog log = Villages.of(11, 0);
        log.attend(10, 0);
        log.come();
        due("the 12th is present", log.villager(11, 0), 1);
        due("11 are present", log.count(1), 11);
        log.attend(11, 0);
        log.undo();
        log.undo();
        due("who comes in the place of one undone", log.come(), 11);
        due("is present", log.villager(11, 0), 1);
    }

    private static void comeIsAnAction() {
        says(COME, ACTION);
        VillageLog log = new VillageLog();
        isAction(log, "come() of the first", log::come, 0);
        VillageLog last = Villages.of(11, 1);
        isAction(last, "come() of the last", last::come, 11);
    }

    private static void comeReturnsTheNumber() {
        says(COME, "Returns the villager's number");
        VillageLog log = new VillageLog();
        for (int villager = 0; villager < 12; villager++) {
            due("come()", log.come(), villager);
        }
    }

    private static void comeIfThereAre12() {
        says(COME, "CAPACITY_EXCEEDED if there are 12.");
        VillageLog log = Villages.of(11, 0);
        due("there are 11", log.come(), 11);
        due("there are 12", log.come(), FULL);
        due("again", log.come(), FULL);
        log.attend(3, 0);
        due("one of 12 is away", log.come(), FULL);
        log.undo();
        log.undo();
        due("there are 11 again", log.come(), 11);
        due("villagers", log.count(0), 12);
    }

    private static void attendIsAnAction() {
        says(ATTEND, ACTION);
        VillageLog log = Villages.of(2, 1);
        isAction(log, "attend(0, 0)", () -> log.attend(0, 0), 1);
        log.attend(1, 0);
        isAction(log, "attend(1, 1)", () -> log.attend(1, 1), 2);
    }

    private static void attendIs1Or0() {
        says(ATTEND, "1 if the villager is present then, 0 if away");
        VillageLog log = Villages.of(2, 0);
        log.attend(1, 0);
        due("away", log.villager(1, 0), 0);
        due("the other one", log.villager(0, 0), 1);
        log.attend(1, 1);
        due("present", log.villager(1, 0), 1);
    }

    private static void attendReturnsThePresent() {
        says(ATTEND, "Returns the number of villagers who are present then");
        VillageLog log = Villages.of(12, 0);
        for (int villager = 0; villager < 12; villager++) {
            due("attend(" + villager + ", 0)", log.attend(villager, 0), 11 - villager);
        }
        for (int villager = 11; villager >= 0; villager--) {
            due("attend(" + villager + ", 1)", log.attend(villager, 1), 12 - villager);
        }
    }

    private static void attendOutOfRange() {
        says(ATTEND, "INVALID_ARGUMENT if an argument is out of range");
        VillageLog log = Villages.of(3, 0);
        due("the last villager", log.attend(2, 0), 2);
        due("one behind the last", log.attend(3, 0), BAD);
        due("one whom there may be later", log.attend(11, 0), BAD);
        due("12", log.attend(12, 1), BAD);
        due("is 2", log.attend(0, 2), BAD);
        for (int strange : STRANGE) {
            due("attend(" + strange + ", 0)", log.attend(strange, 0), BAD);
            due("attend(" + strange + ", 1)", log.attend(strange, 1), BAD);
            due("attend(0, " + strange + ")", log.attend(0, strange), BAD);
        }
        due("present", log.count(1), 2);
    }

    private static void attendIfItIsSoAlready() {
        says(ATTEND, "ILLEGAL_STATE if it is so already.");
        VillageLog log = Villages.of(2, 0);
        due("present at first", log.attend(0, 1), ILLEGAL);
        log.attend(0, 0);
        due("away", log.attend(0, 0), ILLEGAL);
        log.attend(0, 1);
        due("back", log.attend(0, 1), ILLEGAL);
        log.undo();
        due("away by undo()", log.attend(0, 0), ILLEGAL);
    }

    private static void foundSetsTheVillagersOnTheirSeats() {
        says(FOUND, "Sets the first council: the villagers 0 to size - 1, on the seats of their numbers.");
        for (int size = 1; size <= 5; size++) {
            VillageLog log = Villages.of(6, size);
            for (int villager = 0; villager < 6; villager++) {
                due("the seat of " + villager + " of " + size, log.villager(villager, 2), villager < size ? villager : NONE);
            }
        }
    }

    private static void foundIsAnAction() {
        says(FOUND, ACTION);
        VillageLog log = Villages.of(5, 0);
        isAction(log, "found(5)", () -> log.found(5), 5);
        isAction(log, "found(1)", () -> log.found(1), 1);
    }

    private static void foundSize1To5() {
        says(FOUND, "1 to 5");
        int[] sizes = {0, 1, 2, 3, 4, 5, 6};
        for (int size : sizes) {
            due("found(" + size + ") of 12", Villages.of(12, 0).found(size), size >= 1 && size <= 5 ? size : BAD);
        }
    }

    private static void foundReturnsTheSize() {
        says(FOUND, "Returns the size");
        for (int size = 1; size <= 5; size++) {
            VillageLog log = Villages.of(size, 0);
            due("found(" + size + ") of all", log.found(size), size);
            due("the size", log.count(2), size);
        }
        VillageLog away = Villages.of(1, 0);
        away.attend(0, 0);
        due("of one who is away", away.found(1), 1);
    }

    private static void foundSizeOutOfRange() {
        says(FOUND, "INVALID_ARGUMENT if size is out of range");
        VillageLog log = Villages.of(12, 0);
        due("0", log.found(0), BAD);
        due("6", log.found(6), BAD);
        due("12", log.found(12), BAD);
        for (int strange : STRANGE) {
            due("found(" + strange + ")", log.found(strange), BAD);
        }
        due("no council", log.count(2), 0);
        due("states", log.count(10), 5);
    }

    private static void foundIfThereIsACouncil() {
        says(FOUND, "ILLEGAL_STATE if there is a council");
        VillageLog log = Villages.of(6, 1);
        for (int size = 1; size <= 5; size++) {
            due("found(" + size + ")", log.found(size), ILLEGAL);
        }
        log.undo();
        due("when there is none any more", log.found(5), 5);
    }

    private static void foundIfThereAreNotSoMany() {
        says(FOUND, "or there are not so many villagers.");
        for (int size = 1; size <= 5; size++) {
            VillageLog log = Villages.of(size - 1, 0);
            due(size + " of " + (size - 1), log.found(size), ILLEGAL);
            due("no council", log.count(2), 0);
            log.come();
            due(size + " of " + size, log.found(size), size);
        }
    }

    private static void setLotIsAnAction() {
        says(SET_LOT, ACTION);
        VillageLog log = new VillageLog();
        isAction(log, "setLot(65535)", () -> log.setLot(65535), 1);
        isAction(log, "setLot(1), as it is", () -> log.setLot(1), 1);
    }

    private static void setLotState0To65535() {
        says(SET_LOT, "0 to 65535");
        VillageLog log = new VillageLog();
        int[] states = {0, 1, 32767, 32768, 65534, 65535};
        for (int state : states) {
            log.setLot(state);
            due("the state", log.count(7), state);
        }
    }

    private static void setLotReturnsThePrevious() {
        says(SET_LOT, "Returns the previous state");
        VillageLog log = Villages.of(2, 1);
        due("setLot(65535)", log.setLot(65535), 1);
        due("setLot(0)", log.setLot(0), 65535);
        due("setLot(0)", log.setLot(0), 0);
        log.change(0, 0);
        due("after a draw", log.setLot(5), 13849);
    }

    private static void setLotOutOfRange() {
        says(SET_LOT, "INVALID_ARGUMENT if state is out of range.");
        VillageLog log = new VillageLog();
        due("-1", log.setLot(-1), BAD);
        due("65536", log.setLot(65536), BAD);
        for (int strange : STRANGE) {
            due("setLot(" + strange + ")", log.setLot(strange), BAD);
        }
        due("the state", log.count(7), 1);
        due("states", log.count(10), 0);
    }

    private static void changeBeginsAChange() {
        says(CHANGE, "a villager is drawn for a seat, and a change entry is proposed by an elder of the old council.");
        VillageLog log = Villages.of(6, 5);
        due("change(4, 0)", log.change(4, 0), 5);
        due("a change goes on", log.count(6), 1);
        due("one draw", log.count(8), 1);
        due("for the seat", log.draw(0, 4), 0);
        due("one entry", log.count(4), 1);
        due("by the elder", log.entry(0, 4), 4);
        due("it is in one copy", log.entry(0, 3), 1);
        due("that of the elder", log.villager(4, 1), 1);
        due("the new elder proposes none", log.change(5, 0), ILLEGAL);
    }

    private static void changeIsAnAction() {
        says(CHANGE, ACTION);
        VillageLog log = Villages.of(2, 1);
        isAction(log, "change(0, 0)", () -> log.change(0, 0), 1);
        VillageLog full = Villages.of(6, 5);
        full.propose(4, 1);
        isAction(full, "change(4, 4)", () -> full.change(4, 4), 5);
    }

    private static void changeOfTheFirstAndTheLastSeat() {
        says(CHANGE, "a seat of the council");
        for (int size = 1; size <= 5; size++) {
            VillageLog log = Villages.of(size + 1, size);
            due("before the first of " + size, log.change(0, -1), BAD);
            due("behind the last of " + size, log.change(0, size), BAD);
            due("the first of " + size, log.change(0, 0), size);
            log.undo();
            due("the last of " + size, log.change(0, size - 1), size);
        }
    }

    private static void changeReturnsTheDrawn() {
        says(CHANGE, "Returns the villager who is drawn");
        VillageLog log = Villages.of(12, 5);
        log.setLot(stateFor(0, 7));
        due("the first candidate", log.change(0, 0), 5);
        log.undo();
        log.setLot(stateFor(6, 7));
        due("the last candidate", log.change(0, 0), 11);
        log.undo();
        log.attend(11, 0);
        due("one who is away", log.change(0, 0), 11);
    }

    private static void changeNoSuchVillagerOrSeat() {
        says(CHANGE, "INVALID_ARGUMENT if there is no such villager or seat");
        VillageLog none = Villages.of(3, 0);
        due("a villager, but no council", none.change(0, 0), BAD);
        VillageLog log = Villages.of(3, 2);
        due("the villager 3", log.change(3, 0), BAD);
        due("the seat 2", log.change(0, 2), BAD);
        due("the seat 5", log.change(0, 5), BAD);
        for (int strange : STRANGE) {
            due("change(" + strange + ", 0)", log.change(strange, 0), BAD);
            due("change(0, " + strange + ")", log.change(0, strange), BAD);
            due("change(" + strange + ", " + strange + ")", log.change(strange, strange), BAD);
        }
        due("no draw", log.count(8), 0);
        due("the lot", log.count(7), 1);
        due("the last villager and seat", log.change(1, 1), 2);
    }

    private static void changeIfAChangeGoesOn() {
        says(CHANGE, "ILLEGAL_STATE if a change goes on");
        VillageLog log = Villages.of(4, 2);
        due("the first change", log.change(0, 0), 2);
        due("the same one", log.change(0, 0), ILLEGAL);
        due("another seat", log.change(0, 1), ILLEGAL);
        due("the lot", log.count(7), after(1));
        log.second(1, 0);
        log.second(2, 0);
        due("when it is over", log.change(2, 0), 3);
        log.undo();
        log.undo();
        due("when it is open again", log.change(0, 1), ILLEGAL);
        log.undo();
        log.undo();
        due("when it is undone", log.change(0, 1), 2);
    }

    private static void changeIfNoElderOrAway() {
        says(CHANGE, "the villager is no elder or is away");
        VillageLog log = Villages.of(4, 2);
        due("no elder", log.change(2, 0), ILLEGAL);
        due("no elder, the last villager", log.change(3, 1), ILLEGAL);
        log.attend(1, 0);
        due("away", log.change(1, 0), ILLEGAL);
        due("the lot", log.count(7), 1);
        log.attend(1, 1);
        due("back", log.change(1, 0), 2);
    }

    private static void changeIfNotAllEntries() {
        says(CHANGE, "or does not have all entries in the own copy");
        VillageLog log = Villages.of(3, 2);
        Villages.propose(log, 0, 2);
        due("none of two", log.change(1, 0), ILLEGAL);
        log.second(1, 0);
        due("one of two", log.change(1, 0), ILLEGAL);
        log.second(1, 1);
        due("all", log.change(1, 0), 2);
    }

    private static void changeIfNoCandidate() {
        says(CHANGE, "or there is no candidate");
        for (int size = 1; size <= 5; size++) {
            VillageLog log = Villages.of(size, size);
            due("all are in the council of " + size, log.change(0, 0), ILLEGAL);
            due("the lot", log.count(7), 1);
            due("no draw", log.count(8), 0);
            log.come();
            due("one candidate", log.change(0, 0), size);
        }
    }

    private static void changeIfThereAre60Entries() {
        says(CHANGE, "CAPACITY_EXCEEDED if there are 60 entries.");
        VillageLog log = Villages.of(2, 1);
        Villages.propose(log, 0, 59);
        due("there are 59", log.change(0, 0), 1);
        due("entries", log.count(4), 60);
        log.undo();
        log.propose(0, 1);
        due("there are 60", log.change(0, 0), FULL);
        due("the lot", log.count(7), 1);
        due("no draw", log.count(8), 0);
        due("no change", log.count(6), 0);
    }

    private static void forgePutsAnotherCandidate() {
        says(FORGE, "another candidate is put in place of the one who was drawn for the change that goes on.");
        VillageLog log = Villages.of(12, 5);
        int drawn = log.change(0, 4);
        int other = drawn == 11 ? 10 : 11;
        due("forge(" + other + ")", log.forge(other), drawn);
        due("in the new council", log.elder(1, 4), other);
        due("in the old one", log.elder(0, 4), 4);
        due("the drawn one has no seat", log.villager(drawn, 3), NONE);
        due("the state of the lot", log.count(7), after(1));
        due("no entry more", log.count(4), 1);
        due("no draw more", log.count(8), 1);
    }

    private static void forgeIsAnAction() {
        says(FORGE, ACTION);
        VillageLog log = Villages.of(4, 2);
        log.change(0, 1);
        isAction(log, "forge(3)", () -> log.forge(3), 2);
        VillageLog agreeing = Villages.of(4, 2);
        agreeing.change(0, 0);
        agreeing.second(2, 0);
        agreeing.forge(3);
        agreeing.second(1, 0);
        isAction(agreeing, "forge(2), by which the change ends", () -> agreeing.forge(2), 3);
    }

    private static void forgeReturnsWhoWasThere() {
        says(FORGE, "Returns the villager who was in this place");
        VillageLog log = Villages.of(5, 2);
        due("change(0, 0)", log.change(0, 0), 3);
        due("in place of the drawn one", log.forge(4), 3);
        due("in place of a forged one", log.forge(2), 4);
        due("the drawn one again", log.forge(3), 2);
        due("it is not forged then", log.draw(0, 3), 0);
    }

    private static void forgeNoSuchVillager() {
        says(FORGE, "INVALID_ARGUMENT if there is no such villager");
        VillageLog log = Villages.of(4, 2);
        due("4, no change", log.forge(4), BAD);
        log.change(0, 0);
        due("4", log.forge(4), BAD);
        due("12", log.forge(12), BAD);
        for (int strange : STRANGE) {
            due("forge(" + strange + ")", log.forge(strange), BAD);
        }
        due("not forged", log.count(9), 0);
        due("the last villager", log.forge(3), 2);
    }

    private static void forgeIfNoChangeGoesOn() {
        says(FORGE, "ILLEGAL_STATE if no change goes on");
        VillageLog log = Villages.of(4, 2);
        due("before the first change", log.forge(2), ILLEGAL);
        due("without a council", Villages.of(4, 0).forge(2), ILLEGAL);
        log.change(0, 0);
        log.second(1, 0);
        due("the change ends", log.second(2, 0), 1);
        due("after it", log.forge(3), ILLEGAL);
        due("the one who left", log.forge(0), ILLEGAL);
        log.undo();
        due("while it is open again", log.forge(3), 2);
        log.undo();
        log.undo();
        log.undo();
        due("when it is undone", log.forge(3), ILLEGAL);
    }

    private static void forgeIfInACouncil() {
        says(FORGE, "or the villager is in the old or in the new council.");
        VillageLog log = Villages.of(4, 2);
        log.change(0, 0);
        due("the one who leaves", log.forge(0), ILLEGAL);
        due("the one who stays", log.forge(1), ILLEGAL);
        due("the one who was drawn", log.forge(2), ILLEGAL);
        due("one who is in neither", log.forge(3), 2);
        due("the forged one", log.forge(3), ILLEGAL);
        due("the one who was drawn is in neither now", log.forge(2), 3);
    }
}
