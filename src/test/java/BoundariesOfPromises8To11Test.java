/** The boundary cases that stand under the promises 8 to 11. */
public final class BoundariesOfPromises8To11Test extends Boundaries {
    private static final String PROPOSE = "Promise 8: propose";
    private static final String SECOND = "Promise 9: second";
    private static final String LEARN = "Promise 10: learn";
    private static final String UNDO = "Promise 11: undo";
    private static final String ACTION = "This is an action.";

    public static void main(String[] args) {
        proposeIsAnAction();
        proposeNumber0To999();
        proposeReturnsTheNumber();
        proposeOutOfRange();
        proposeIfNoElder();
        proposeIfAway();
        proposeIfNotAllEntriesBeforeIt();
        proposeIfThereAre60Entries();
        secondIsAnAction();
        secondReturnsTheAgreed();
        secondReturnsTheAgreedOfAFullLog();
        secondNoSuchVillagerOrEntry();
        secondIfNoElder();
        secondIfAway();
        secondIfTheElderHasItAlready();
        secondIfNotAllEntriesBeforeIt();
        learnIsAnAction();
        learnReturnsHowManyCome();
        learnNoSuchVillager();
        learnIfAway();
        undoRestoresEachAction();
        undoReturnsWhatIsLeft();
        undoIfEmpty();
        undoOfUndo();
        end("BoundariesOfPromises8To11Test");
    }

    private static void proposeIsAnAction() {
        says(PROPOSE, ACTION);
        VillageLog log = Villages.of(3, 2);
        isAction(log, "propose(0, 0)", () -> log.propose(0, 0), 0);
        VillageLog alone = Villages.of(1, 1);
        alone.propose(0, 1);
        isAction(alone, "propose(0, 999), which is agreed at once", () -> alone.propose(0, 999), 1);
    }

    private static void proposeNumber0To999() {
        says(PROPOSE, "0 to 999");
        VillageLog log = Villages.of(1, 1);
        int[] numbers = {0, 1, 9, 10, 99, 100, 998, 999};
        for (int entry = 0; entry < numbers.length; entry++) {
            due("propose(0, " + numbers[entry] + ")", log.propose(0, numbers[entry]), entry);
            due("its number", log.entry(entry, 0), numbers[entry]);
        }
    }

    private static void proposeReturnsTheNumber() {
        says(PROPOSE, "Returns the number of the entry");
        VillageLog log = Villages.of(2, 2);
        for (int entry = 0; entry < 60; entry++) {
            int elder = entry / 20 % 2;
            Villages.second(log, elder, log.villager(elder, 1), entry - 1);
            due("propose(" + elder + ", 7)", log.propose(elder, 7), entry);
        }
    }

    private static void proposeOutOfRange() {
        says(PROPOSE, "INVALID_ARGUMENT if an argument is out of range");
        VillageLog log = Villages.of(2, 2);
        due("-1", log.propose(0, -1), BAD);
        due("1000", log.propose(0, 1000), BAD);
        due("the villager 2", log.propose(2, 0), BAD);
        for (int strange : STRANGE) {
            due("propose(0, " + strange + ")", log.propose(0, strange), BAD);
            due("propose(" + strange + ", 0)", log.propose(strange, 0), BAD);
        }
        due("entries", log.count(4), 0);
        due("the last villager", log.propose(1, 0), 0);
    }

    private static void proposeIfNoElder() {
        says(PROPOSE, "ILLEGAL_STATE if the villager is no elder of the old or of the new council");
        due("without a council", Villages.of(2, 0).propose(0, 1), ILLEGAL);
        VillageLog log = Villages.of(4, 2);
        due("not yet an elder", log.propose(2, 1), ILLEGAL);
        log.change(0, 0);
        log.second(2, 0);
        due("an elder of the new council", log.propose(2, 1), 1);
        log.second(0, 1);
        due("an elder of the old council", log.propose(0, 2), 2);
        log.second(2, 2);
        log.forge(3);
        due("no elder any more, by a forged lot", log.propose(2, 3), ILLEGAL);
        log.forge(2);
        log.second(1, 0);
        due("the change is over", log.count(6), 0);
        due("no elder any more", log.propose(0, 3), ILLEGAL);
        due("an elder as before", log.propose(2, 3), 3);
    }

    private static void proposeIfAway() {
        says(PROPOSE, "or is away");
        VillageLog log = Villages.of(2, 2);
        log.attend(0, 0);
        due("away", log.propose(0, 1), ILLEGAL);
        due("the other one", log.propose(1, 1), 0);
        log.attend(0, 1);
        log.second(0, 0);
        due("back", log.propose(0, 1), 1);
    }

    private static void proposeIfNotAllEntriesBeforeIt() {
        says(PROPOSE, "or does not have all entries before it in the own copy");
        VillageLog log = Villages.of(3, 3);
        due("an empty log and an empty copy", log.propose(2, 1), 0);
        due("none of one", log.propose(1, 1), ILLEGAL);
        log.second(1, 0);
        log.propose(2, 2);
        due("one of two", log.propose(1, 1), ILLEGAL);
        log.second(1, 1);
        due("two of two", log.propose(1, 1), 2);
        due("all that are agreed, but not all", log.learn(0), 2);
        due("two of three", log.propose(0, 1), ILLEGAL);
    }

    private static void proposeIfThereAre60Entries() {
        says(PROPOSE, "CAPACITY_EXCEEDED if there are 60 entries.");
        VillageLog log = Villages.of(2, 2);
        Villages.propose(log, 0, 59);
        due("there are 59", log.propose(0, 999), 59);
        due("there are 60", log.propose(0, 999), FULL);
        due("entries", log.count(4), 60);
        due("the copy", log.villager(0, 1), 60);
        log.undo();
        due("there are 59 again", log.propose(0, 998), 59);
        due("the last number", log.entry(59, 0), 998);
    }

    private static void secondIsAnAction() {
        says(SECOND, ACTION);
        VillageLog log = Villages.of(3, 3);
        log.propose(0, 1);
        isAction(log, "second(1, 0), which agrees", () -> log.second(1, 0), 1);
        log.second(1, 0);
        isAction(log, "second(2, 0), which does not", () -> log.second(2, 0), 0);
        VillageLog changing = Villages.of(2, 1);
        changing.change(0, 0);
        isAction(changing, "second(1, 0), by which the change ends", () -> changing.second(1, 0), 1);
    }

    private static void secondReturnsTheAgreed() {
        says(SECOND, "Returns the number of entries that are agreed by this");
        VillageLog log = Villages.of(5, 5);
        log.propose(0, 1);
        due("two of five", log.second(1, 0), 0);
        due("three of five", log.second(2, 0), 1);
        due("four of five, agreed already", log.second(3, 0), 0);
        due("five of five", log.second(4, 0), 0);
    }

    /** The change entry is the first of 60, and the elder who leaves is the last one who is wanted. */
    private static void secondReturnsTheAgreedOfAFullLog() {
        says(SECOND, "Returns the number of entries that are agreed by this");
        VillageLog log = Villages.of(4, 3);
        due("change(0, 2)", log.change(0, 2), 3);
        Villages.propose(log, 0, 59);
        Villages.second(log, 3, 0, 59);
        due("60 entries are in the copies of the new council", log.entry(59, 6), 2);
        due("none is agreed", log.count(5), 0);
        due("second(2, 0)", log.second(2, 0), 60);
        due("agreed", log.count(5), 60);
        due("the term", log.count(3), 1);
    }

    private static void secondNoSuchVillagerOrEntry() {
        says(SECOND, "INVALID_ARGUMENT if there is no such villager or entry");
        VillageLog log = Villages.of(2, 2);
        due("the entry 0 of an empty log", log.second(0, 0), BAD);
        log.propose(0, 1);
        due("the entry 1 of one", log.second(1, 1), BAD);
        due("the entry 60", log.second(1, 60), BAD);
        due("the villager 2", log.second(2, 0), BAD);
        for (int strange : STRANGE) {
            due("second(1, " + strange + ")", log.second(1, strange), BAD);
            due("second(" + strange + ", 0)", log.second(strange, 0), BAD);
        }
        due("the last villager and entry", log.second(1, 0), 1);
    }

    private static void secondIfNoElder() {
        says(SECOND, "ILLEGAL_STATE if the villager is no elder of the old or of the new council");
        VillageLog log = Villages.of(4, 2);
        log.change(0, 0);
        log.propose(0, 1);
        due("in neither council", log.second(3, 0), ILLEGAL);
        due("of the new council", log.second(2, 0), 0);
        log.forge(3);
        due("no elder any more, by a forged lot", log.second(2, 1), ILLEGAL);
        due("an elder by a forged lot", log.second(3, 0), 0);
        due("of both councils", log.second(1, 0), 1);
        log.second(1, 1);
        due("the next entry", log.propose(1, 2), 2);
        due("the one who left", log.second(0, 2), ILLEGAL);
    }

    private static void secondIfAway() {
        says(SECOND, "or is away");
        VillageLog log = Villages.of(3, 3);
        log.propose(0, 1);
        log.attend(1, 0);
        due("away", log.second(1, 0), ILLEGAL);
        due("the copy", log.villager(1, 1), 0);
        log.attend(1, 1);
        due("back", log.second(1, 0), 1);
    }

    private static void secondIfTheElderHasItAlready() {
        says(SECOND, "or has the entry already");
        VillageLog log = Villages.of(3, 3);
        Villages.propose(log, 0, 2);
        due("who proposed the first", log.second(0, 0), ILLEGAL);
        due("who proposed the last", log.second(0, 1), ILLEGAL);
        log.second(1, 0);
        due("who seconded it", log.second(1, 0), ILLEGAL);
        log.learn(2);
        due("who learned it", log.second(2, 0), ILLEGAL);
        due("the next one", log.second(2, 1), 1);
        due("copies", log.entry(0, 3), 3);
    }

    private static void secondIfNotAllEntriesBeforeIt() {
        says(SECOND, "or does not have all entries before it.");
        VillageLog log = Villages.of(2, 2);
        Villages.propose(log, 0, 60);
        due("the last without any", log.second(1, 59), ILLEGAL);
        due("the second without the first", log.second(1, 1), ILLEGAL);
        Villages.second(log, 1, 0, 57);
        due("the last but for one", log.second(1, 59), ILLEGAL);
        log.second(1, 58);
        due("the last with all before it", log.second(1, 59), 1);
    }

    private static void learnIsAnAction() {
        says(LEARN, ACTION);
        VillageLog log = Villages.of(2, 1);
        isAction(log, "learn(1) of nothing", () -> log.learn(1), 0);
        Villages.propose(log, 0, 2);
        isAction(log, "learn(1)", () -> log.learn(1), 2);
    }

    private static void learnReturnsHowManyCome() {
        says(LEARN, "Returns the number of entries that come to the copy");
        VillageLog log = Villages.of(3, 1);
        due("of an empty log", log.learn(0), 0);
        Villages.propose(log, 0, 60);
        due("all 60", log.learn(1), 60);
        due("none again", log.learn(1), 0);
        due("none who has all", log.learn(0), 0);
        VillageLog proposed = Villages.of(3, 2);
        Villages.propose(proposed, 0, 2);
        due("none that is only proposed", proposed.learn(2), 0);
        proposed.second(1, 0);
        due("one that is agreed", proposed.learn(2), 1);
        due("none for one who has more", proposed.learn(0), 0);
        due("who keeps it", proposed.villager(0, 1), 2);
    }

    private static void learnNoSuchVillager() {
        says(LEARN, "INVALID_ARGUMENT if there is no such villager");
        due("without villagers", new VillageLog().learn(0), BAD);
        VillageLog log = Villages.of(2, 1);
        due("the villager 2", log.learn(2), BAD);
        due("the villager 12", log.learn(12), BAD);
        for (int strange : STRANGE) {
            due("learn(" + strange + ")", log.learn(strange), BAD);
        }
        due("the last villager", log.learn(1), 0);
    }

    private static void learnIfAway() {
        says(LEARN, "ILLEGAL_STATE if the villager is away.");
        VillageLog log = Villages.of(2, 1);
        log.attend(1, 0);
        due("nothing to learn", log.learn(1), ILLEGAL);
        log.propose(0, 1);
        due("something to learn", log.learn(1), ILLEGAL);
        due("the copy", log.villager(1, 1), 0);
        log.attend(1, 1);
        due("back", log.learn(1), 1);
    }

    private static void undoRestoresEachAction() {
        says(UNDO, "Removes the latest state from the history and restores it.");
        VillageLog log = Villages.of(4, 2);
        String before = Villages.seen(log);
        log.change(0, 0);
        String changing = Villages.seen(log);
        log.forge(3);
        Villages.second(log, 1, 0, 0);
        String almost = Villages.seen(log);
        due("the change ends", log.second(3, 0), 1);
        due("undo() of the last second", log.undo(), 4);
        same("it goes on again", Villages.seen(log), almost);
        due("undo() of the first second", log.undo(), 3);
        due("undo() of forge", log.undo(), 2);
        same("the drawn one is back", Villages.seen(log), changing);
        due("undo() of change", log.undo(), 1);
        same("no change", Villages.seen(log), before);
    }

    private static void undoReturnsWhatIsLeft() {
        says(UNDO, "Returns the number of states that are left in the history");
        for (int calls = 1; calls <= 8; calls++) {
            VillageLog log = new VillageLog();
            for (int call = 0; call < calls; call++) {
                log.come();
            }
            for (int left = Math.min(5, calls) - 1; left >= 0; left--) {
                due("undo() after " + calls, log.undo(), left);
                due("states", log.count(10), left);
            }
            due("undo() of an empty history", log.undo(), ILLEGAL);
            due("villagers", log.count(0), Math.max(0, calls - 5));
        }
    }

    private static void undoIfEmpty() {
        says(UNDO, "ILLEGAL_STATE if it is empty.");
        VillageLog log = new VillageLog();
        due("at first", log.undo(), ILLEGAL);
        log.found(1);
        log.append('x');
        log.run();
        due("after calls that are refused or no actions", log.undo(), ILLEGAL);
        log.come();
        due("undo()", log.undo(), 0);
        due("again", log.undo(), ILLEGAL);
        due("villagers", log.count(0), 0);
    }

    private static void undoOfUndo() {
        says(UNDO, "Removes the latest state from the history and restores it.");
        VillageLog log = new VillageLog();
        for (int state = 11; state <= 17; state++) {
            log.setLot(state);
        }
        due("undo()", log.undo(), 4);
        due("undo() goes on", log.undo(), 3);
        due("the lot", log.count(7), 15);
        log.setLot(20);
        due("states", log.count(10), 4);
        due("undo() of the new one", log.undo(), 3);
        due("the lot", log.count(7), 15);
        for (int state = 14; state >= 12; state--) {
            log.undo();
            due("the lot", log.count(7), state);
        }
        due("undo()", log.undo(), ILLEGAL);
    }
}
