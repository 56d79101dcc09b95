/** The boundary cases that stand under "Texts", "Undo" and "Errors". */
public final class BoundariesOfTextsUndoErrorsTest extends Boundaries {
    public static void main(String[] args) {
        atMost60Characters();
        eachFollowedByItsSign();
        numberOf1To3Digits();
        nothingElseInANumber();
        eachAsItsEndIsRead();
        firstCharacterThatIsNotAllowed();
        firstCommandThatReturnsAnErrorCode();
        placeIsTheLengthWhereSomethingIsMissing();
        nothingOfAFailedTextStays();
        atMost5States();
        everythingButTheTextAndTheHistory();
        everySuccessfulActionIsRecorded();
        nothingElseIsRecorded();
        sixthDropsTheOldest();
        undoRemovesTheLatest();
        errorChangesNothing();
        errorKeepsTheHistory();
        firstListedErrorOfChange();
        firstListedErrorOfChangeInAFullLog();
        firstListedErrorOfPropose();
        firstListedErrorOfTheOthers();
        noneOnlyWithoutAnError();
        theConstants();
        forecastsChangeNothing();
        end("BoundariesOfTextsUndoErrorsTest");
    }

    /** Three villagers, a council of 0 and 1, and the text that is run. */
    private static int ran(String text) {
        return Villages.run(Villages.of(3, 2), text);
    }

    private static String commands(String command, int number) {
        return command.repeat(number);
    }

    private static void atMost60Characters() {
        says("Texts", "A text of at most 60 characters can be run");
        due("no character", new VillageLog().run(), 0);
        VillageLog log = Villages.of(3, 2);
        Villages.write(log, commands("l2;", 20));
        due("60 characters", log.count(11), 60);
        due("the 61st is refused", log.append(';'), FULL);
        due("the 60 are run", log.run(), 20);
        Villages.write(log, commands("l2;", 19) + "l2x");
        due("the last of 60 is wrong", log.run(), -1059);
    }

    private static void eachFollowedByItsSign() {
        says("Texts", "a row of commands, each followed by \";\"");
        due("l2;", ran("l2;"), 1);
        due("l2", ran("l2"), -1002);
        due("l2l2;", ran("l2l2;"), -1002);
        due("l2;l2", ran("l2;l2"), -1005);
        due(";", ran(";"), -1000);
        due("l2;;", ran("l2;;"), -1003);
        due("p0:1", ran("p0:1"), -1004);
        due("p0:1p0:2;", ran("p0:1p0:2;"), -1004);
    }

    private static void numberOf1To3Digits() {
        says("Texts", "A number is 1 to 3 digits without a 0 in front of others");
        due("no digit", ran("p0:;"), -1003);
        due("1 digit", ran("p0:9;"), 1);
        due("2 digits", ran("p0:10;"), 1);
        due("2 digits", ran("p0:99;"), 1);
        due("3 digits", ran("p0:100;"), 1);
        due("3 digits", ran("p0:999;"), 1);
        due("4 digits", ran("p0:1000;"), -1006);
        due("4 digits", ran("p0:9999;"), -1006);
        due("0 alone", ran("p0:0;"), 1);
        due("0 in front of 0", ran("p0:00;"), -1004);
        due("0 in front of 1", ran("p0:01;"), -1004);
        due("0 behind 1 and in front of 0", ran("p0:100;"), 1);
        due("0 in front of a villager", ran("p01:5;"), -1002);
        due("0 in front, 3 digits", ran("l012;"), -1002);
        due("a villager of 4 digits", ran("l1234;"), -1004);
        due("a villager of 3 digits, whom there is not", ran("l999;"), -1000);
        VillageLog log = Villages.of(12, 1);
        due("a villager of 2 digits", Villages.run(log, "l11;l10;g11;"), 3);
        due("it is the villager 11", log.villager(11, 0), 0);
        Villages.run(log, "p0:10;p0:909;");
        due("10 is 10", log.entry(0, 0), 10);
        due("909 is 909", log.entry(1, 0), 909);
    }

    private static void nothingElseInANumber() {
        says("Texts", "nothing else may stand in it.");
        for (int sign = 1; sign < 256; sign++) {
            boolean digit = sign >= '0' && sign <= '9';
            char put = (char) sign;
            due("the sign " + sign + " in front of 5", ran("p0:" + put + "5;"), sign == '0' ? -1004 : digit ? 1 : -1003);
            due("the sign " + sign + " behind 5", ran("p0:5" + put + "7;"), digit ? 1 : sign == ';' ? -1005 : -1004);
        }
    }

    private static void eachAsItsEndIsRead() {
        says("Texts", "The commands are read and run one by one, each as its \";\" is read.");
        due("the second needs the first", ran("p0:1;s1:0;"), 2);
        due("the first needs the second", ran("s1:0;p0:1;"), -1000);
        due("a bad call before a bad sign", ran("s1:0;x"), -1000);
        due("a bad sign before a bad call", ran("x;s1:0;"), -1000);
        due("a bad sign behind a good call", ran("l2;x"), -1003);
        due("a bad call without its end is not run", ran("l2;s1:0"), -1007);
        due("a bad call with another end is not run", ran("l2;s1:0,"), -1007);
    }

    private static void firstCharacterThatIsNotAllowed() {
        says("Texts", "The text fails at the first character that is not allowed where it stands (also a digit too many)");
        due("instead of a letter", ran("x2;y"), -1000);
        due("a letter that is large", ran("L2;"), -1000);
        due("instead of a villager", ran("lx;y"), -1001);
        due("behind a villager", ran("l2:1;"), -1002);
        due("instead of a colon", ran("p0;1;"), -1002);
        due("instead of a number", ran("p0:x;"), -1003);
        due("behind a number", ran("p0:1:"), -1004);
        due("a digit too many", ran("p0:1234;"), -1006);
        due("a digit too many, without an end", ran("p0:1234"), -1006);
        due("a digit behind 0", ran("p0:05;"), -1004);
        due("in the second command", ran("l2;l2:;"), -1005);
        due("two of them", ran("lx;px"), -1001);
    }

    private static void firstCommandThatReturnsAnErrorCode() {
        says("Texts", "at the first command whose call returns an error code (the place is then that of its letter)");
        due("INVALID_ARGUMENT", ran("l3;"), -1000);
        due("ILLEGAL_STATE", ran("b2;"), -1000);
        due("in the second command", ran("l2;b2;"), -1003);
        due("two of them", ran("l2;b2;g7;"), -1003);
        due("each kind: p", ran("l2;p2:1;"), -1003);
        due("each kind: s", ran("l2;s0:0;"), -1003);
        due("each kind: l", ran("g2;l2;"), -1003);
        due("each kind: g", ran("g2;g2;"), -1003);
        VillageLog log = Villages.of(1, 1);
        Villages.propose(log, 0, 59);
        due("CAPACITY_EXCEEDED", Villages.run(log, "p0:1;p0:2;"), -1005);
        due("one has room", Villages.run(log, "p0:1;"), 1);
    }

    private static void placeIsTheLengthWhereSomethingIsMissing() {
        says("Texts", "the place is the offset (from 0) of this character, or the length of the text if it ends where something is missing.");
        String text = "l2;p0:123;";
        int[] whole = {0, 3, 10};
        for (int length = 0; length <= text.length(); length++) {
            int due = -1000 - length;
            for (int command = 0; command < whole.length; command++) {
                due = whole[command] == length ? command : due;
            }
            due(text.substring(0, length), ran(text.substring(0, length)), due);
        }
        due("60 characters", ran(commands("l2;", 18) + "p0:123"), -1060);
    }

    private static void nothingOfAFailedTextStays() {
        says("Texts", "If a text fails, nothing that it has done stays.");
        VillageLog log = Villages.of(3, 2);
        String before = Villages.seen(log);
        due("each kind of command, then a bad one", Villages.run(log, "p0:1;s1:0;l2;g2;b2;g1;b2;"), -1022);
        same("all is as before", Villages.seen(log), before);
        due("each kind of command, then a bad sign", Villages.run(log, "p0:1;s1:0;l2;g2;b2;g1;p"), -1023);
        same("all is as before", Villages.seen(log), before);
        due("states", log.count(10), 4);
        log.undo();
        due("undo() takes back what was before the text", log.count(2), 0);
    }

    private static void atMost5States() {
        says("Undo", "A history of at most 5 states is kept");
        VillageLog log = new VillageLog();
        due("at first", log.count(10), 0);
        for (int calls = 1; calls <= 12; calls++) {
            log.come();
            due("after " + calls, log.count(10), Math.min(5, calls));
        }
        for (int left = 4; left >= 0; left--) {
            due("undo()", log.undo(), left);
        }
        due("a sixth undo()", log.undo(), ILLEGAL);
        due("villagers", log.count(0), 7);
    }

    private static void everythingButTheTextAndTheHistory() {
        says("Undo", "a state is everything but the text and the history.");
        VillageLog log = Villages.of(4, 2);
        Villages.write(log, "g3;");
        String before = Villages.seen(log);
        log.change(0, 0);
        log.forge(3);
        log.setLot(77);
        log.attend(1, 0);
        log.append('x');
        for (int left = 4; left > 0; left--) {
            due("undo()", log.undo(), left);
        }
        due("the text stays", log.count(11), 4);
        same("all else is as before", Villages.seen(log), before);
        log.clearText();
        due("states", log.count(10), 1);
        log.undo();
        due("the text stays empty", log.count(11), 0);
    }

    private static void everySuccessfulActionIsRecorded() {
        says("Undo", "records the state before it (also if nothing changes by it)");
        VillageLog log = Villages.of(2, 1);
        for (int left = 3; left > 0; left--) {
            log.undo();
        }
        due("none at first", log.count(10), 0);
        log.setLot(1);
        due("the same state of the lot", log.count(10), 1);
        log.come();
        log.learn(0);
        due("a learner who learns nothing", log.count(10), 3);
        log.run();
        due("a text without commands", log.count(10), 4);
        Villages.run(log, "l0;");
        due("a text by which nothing changes", log.count(10), 5);
        due("undo()", log.undo(), 4);
        due("undo()", log.undo(), 3);
        due("undo()", log.undo(), 2);
        due("the villager is there", log.count(0), 1);
        due("undo()", log.undo(), 1);
        due("the villager is gone", log.count(0), 0);
    }

    private static void nothingElseIsRecorded() {
        says("Undo", "Every successful call of a method that is called an action records the state before it");
        VillageLog log = Villages.of(2, 1);
        due("states", log.count(10), 3);
        log.append('l');
        log.clearText();
        log.append('x');
        due("a failed run()", log.run(), -1000);
        due("a refused call", log.found(1), ILLEGAL);
        log.missing(0);
        log.reachable();
        log.nextDrawn(0);
        log.spare();
        log.lotFor(1, 0);
        log.elder(0, 0);
        log.villager(0, 0);
        log.entry(0, 0);
        log.draw(0, 0);
        due("states", log.count(10), 3);
        log.undo();
        due("undo() does not record itself", log.count(10), 2);
    }

    private static void sixthDropsTheOldest() {
        says("Undo", "when a sixth one is recorded, the oldest one is dropped.");
        VillageLog log = new VillageLog();
        for (int state = 10; state < 15; state++) {
            log.setLot(state);
        }
        for (int undone = 0; undone < 5; undone++) {
            log.undo();
        }
        due("five reach back to the beginning", log.count(7), 1);
        for (int state = 10; state < 16; state++) {
            log.setLot(state);
        }
        for (int undone = 0; undone < 5; undone++) {
            log.undo();
        }
        due("six do not", log.count(7), 10);
        due("no more", log.undo(), ILLEGAL);
        for (int state = 100; state < 200; state++) {
            log.setLot(state);
        }
        for (int undone = 0; undone < 5; undone++) {
            log.undo();
        }
        due("a hundred", log.count(7), 194);
    }

    private static void undoRemovesTheLatest() {
        says("Undo", "undo() removes the latest state from the history and restores it.");
        VillageLog log = new VillageLog();
        for (int round = 0; round < 20; round++) {
            log.setLot(100 + round);
            log.setLot(200);
            log.setLot(300);
            due("the latest", log.undo(), Math.min(4, round + 2));
            due("its state", log.count(7), 200);
            log.undo();
            due("the one before it", log.count(7), 100 + round);
        }
    }

    /** A village of five with a council of 0, 1 and 2 of which a change goes on, by four states of the history. */
    private static VillageLog changing() {
        VillageLog log = Villages.of(5, 3);
        log.propose(0, 5);
        log.change(0, 2);
        log.attend(1, 0);
        Villages.write(log, "l0;b9;");
        return log;
    }

    /** Calls that are refused in that village, each with the error code that is due. */
    private static void refusedCalls(VillageLog log) {
        due("attend(5, 0)", log.attend(5, 0), BAD);
        due("attend(1, 0)", log.attend(1, 0), ILLEGAL);
        due("found(6)", log.found(6), BAD);
        due("found(2)", log.found(2), ILLEGAL);
        due("setLot(65536)", log.setLot(65536), BAD);
        due("change(0, 3)", log.change(0, 3), BAD);
        due("change(0, 0)", log.change(0, 0), ILLEGAL);
        due("forge(5)", log.forge(5), BAD);
        due("forge(0)", log.forge(0), ILLEGAL);
        due("propose(0, 1000)", log.propose(0, 1000), BAD);
        due("propose(2, 1)", log.propose(2, 1), ILLEGAL);
        due("second(2, 2)", log.second(2, 2), BAD);
        due("second(2, 1)", log.second(2, 1), ILLEGAL);
        due("second(1, 0)", log.second(1, 0), ILLEGAL);
        due("learn(5)", log.learn(5), BAD);
        due("learn(1)", log.learn(1), ILLEGAL);
        due("append(0)", log.append(0), BAD);
        due("run()", log.run(), -1003);
    }

    private static void errorChangesNothing() {
        says("Errors", "A call that returns an error code changes nothing.");
        VillageLog log = changing();
        String before = Villages.whole(log);
        refusedCalls(log);
        same("all is as before", Villages.whole(log), before);

        VillageLog full = Villages.of(12, 0);
        Villages.write(full, commands("x", 60));
        due("undo() to the first state", full.undo() + full.undo() + full.undo() + full.undo() + full.undo(), 10);
        for (int villager = 7; villager < 12; villager++) {
            full.come();
        }
        due("come()", full.come(), FULL);
        due("append('y')", full.append('y'), FULL);
        due("villagers", full.count(0), 12);
        due("states", full.count(10), 5);
        due("the text", full.count(11), 60);
        full.undo();
        due("undo() takes back the 12th", full.count(0), 11);
    }

    private static void errorKeepsTheHistory() {
        says("Errors", "A call that returns an error code changes nothing.");
        VillageLog refused = changing();
        VillageLog twin = changing();
        refusedCalls(refused);
        for (int left = 4; left >= 0; left--) {
            due("undo()", refused.undo(), left);
            due("undo() of its twin", twin.undo(), left);
            refused.found(0);
            due("states", refused.count(10), left);
            due("entries", refused.count(4), twin.count(4));
            due("present", refused.count(1), twin.count(1));
            due("a change", refused.count(6), twin.count(6));
            due("the council", refused.count(2), twin.count(2));
            due("the lot", refused.count(7), twin.count(7));
            due("villagers", refused.count(0), twin.count(0));
        }
        due("undo() of nothing", refused.undo(), ILLEGAL);
        same("the first state", Villages.whole(refused), Villages.whole(twin));
    }

    private static void firstListedErrorOfChange() {
        says("Errors", "If several error conditions apply, the method returns the one that its description lists first");
        VillageLog log = Villages.of(3, 2);
        due("no seat before no elder", log.change(2, 2), BAD);
        log.attend(0, 0);
        due("no seat before one who is away", log.change(0, 2), BAD);
        log.attend(0, 1);
        log.propose(0, 1);
        due("no seat before one who lacks an entry", log.change(1, 2), BAD);
        log.change(0, 0);
        due("no seat before a change", log.change(0, 2), BAD);
        due("no villager before a change", log.change(3, 0), BAD);
        VillageLog all = Villages.of(2, 2);
        due("no villager before no candidate", all.change(2, 0), BAD);
        due("no seat before no candidate", all.change(0, 2), BAD);
    }

    private static void firstListedErrorOfChangeInAFullLog() {
        says("Errors", "If several error conditions apply, the method returns the one that its description lists first");
        VillageLog log = Villages.of(4, 2);
        Villages.propose(log, 0, 60);
        due("no villager before a full log", log.change(4, 0), BAD);
        due("no seat before a full log", log.change(0, 2), BAD);
        due("no elder before a full log", log.change(2, 0), ILLEGAL);
        due("one who lacks entries before a full log", log.change(1, 0), ILLEGAL);
        due("a full log", log.change(0, 0), FULL);
        log.attend(0, 0);
        due("one who is away before a full log", log.change(0, 0), ILLEGAL);
        VillageLog all = Villages.of(1, 1);
        Villages.propose(all, 0, 60);
        due("no candidate before a full log", all.change(0, 0), ILLEGAL);
        VillageLog changing = Villages.of(2, 1);
        Villages.propose(changing, 0, 59);
        due("the change is the last entry", changing.change(0, 0), 1);
        due("a change before a full log", changing.change(0, 0), ILLEGAL);
    }

    private static void firstListedErrorOfPropose() {
        says("Errors", "If several error conditions apply, the method returns the one that its description lists first");
        VillageLog log = Villages.of(3, 2);
        due("a bad number before no elder", log.propose(2, 1000), BAD);
        log.attend(0, 0);
        due("a bad number before one who is away", log.propose(0, 1000), BAD);
        log.attend(0, 1);
        log.propose(0, 1);
        due("a bad number before one who lacks an entry", log.propose(1, -1), BAD);
        Villages.propose(log, 0, 59);
        due("a bad number before a full log", log.propose(0, 1000), BAD);
        due("no villager before a full log", log.propose(3, 1), BAD);
        due("no elder before a full log", log.propose(2, 1), ILLEGAL);
        due("one who lacks entries before a full log", log.propose(1, 1), ILLEGAL);
        due("a full log", log.propose(0, 1), FULL);
        log.attend(0, 0);
        due("one who is away before a full log", log.propose(0, 1), ILLEGAL);
    }

    private static void firstListedErrorOfTheOthers() {
        says("Errors", "If several error conditions apply, the method returns the one that its description lists first");
        VillageLog log = Villages.of(3, 2);
        due("found: a bad size before a council", log.found(6), BAD);
        due("found: a bad size before too few", new VillageLog().found(0), BAD);
        due("attend: a bad argument before it is so", log.attend(0, 2), BAD);
        due("forge: no villager before no change", log.forge(3), BAD);
        due("second: no entry before no elder", log.second(2, 0), BAD);
        log.propose(0, 1);
        due("second: no entry before all before it", log.second(1, 1), BAD);
        due("second: no villager", log.second(3, 0), BAD);
        log.change(0, 0);
        due("nextDrawn: no seat before a change", log.nextDrawn(2), BAD);
        due("lotFor: no villager before a change", log.lotFor(3, 0), BAD);
        due("lotFor: no seat before a change", log.lotFor(2, 2), BAD);
        Villages.write(log, commands("x", 60));
        due("append: a bad character before a full text", log.append(256), BAD);
    }

    private static void noneOnlyWithoutAnError() {
        says("Errors", "NONE is no error, and it is returned only if no error condition applies.");
        VillageLog log = Villages.of(3, 2);
        due("elder: NONE", log.elder(1, 1), NONE);
        due("elder: no seat", log.elder(1, 2), BAD);
        due("elder: no council", log.elder(2, 1), BAD);
        due("villager: NONE", log.villager(2, 2), NONE);
        due("villager: no villager", log.villager(3, 2), BAD);
        log.change(0, 0);
        due("entry: NONE", log.entry(0, 0), NONE);
        due("entry: no entry", log.entry(1, 0), BAD);
        due("lotFor: an elder while a change goes on", log.lotFor(0, 0), ILLEGAL);
        log.undo();
        due("lotFor: NONE", log.lotFor(0, 0), NONE);
        due("lotFor: an elder, no seat", log.lotFor(0, 2), BAD);
        VillageLog all = Villages.of(2, 2);
        due("nextDrawn: NONE", all.nextDrawn(1), NONE);
        due("nextDrawn: no seat, no candidate", all.nextDrawn(2), BAD);
        due("lotFor: no candidate", all.lotFor(0, 1), NONE);
        due("lotFor: no seat, no candidate", all.lotFor(0, 2), BAD);
        due("change: no candidate is an error", all.change(0, 1), ILLEGAL);
    }

    private static void theConstants() {
        says("Errors", "`INVALID_ARGUMENT = -1`");
        due("INVALID_ARGUMENT", VillageLog.INVALID_ARGUMENT, -1);
        says("Errors", "`ILLEGAL_STATE = -2`");
        due("ILLEGAL_STATE", VillageLog.ILLEGAL_STATE, -2);
        says("Errors", "`CAPACITY_EXCEEDED = -3`");
        due("CAPACITY_EXCEEDED", VillageLog.CAPACITY_EXCEEDED, -3);
        says("Errors", "`NONE = -9`");
        due("NONE", VillageLog.NONE, -9);
    }

    private static void forecastsChangeNothing() {
        says("Errors", "what could be, which changes nothing.");
        VillageLog log = changing();
        String before = Villages.whole(log);
        log.missing(0);
        log.missing(1);
        log.reachable();
        log.nextDrawn(0);
        log.spare();
        log.lotFor(4, 0);
        same("while a change goes on", Villages.whole(log), before);
        VillageLog calm = Villages.of(5, 3);
        before = Villages.whole(calm);
        calm.nextDrawn(0);
        calm.lotFor(4, 0);
        calm.lotFor(0, 0);
        calm.spare();
        calm.reachable();
        same("while none goes on", Villages.whole(calm), before);
    }
}
