/** The boundary cases that stand under the promises 12 to 14. */
public final class BoundariesOfPromises12To14Test extends Boundaries {
    private static final String APPEND = "Promise 12: append";
    private static final String CLEAR = "Promise 13: clearText";
    private static final String RUN = "Promise 14: run";

    public static void main(String[] args) {
        appendCharacter1To255();
        appendReturnsTheLength();
        appendOutOfRange();
        appendIfThereAre60Characters();
        appendIsNoAction();
        clearTextMakesItEmpty();
        clearTextReturnsThePreviousLength();
        runIsOneAction();
        runIsOneActionWithoutCommands();
        runIsOneActionIfTheHistoryIsFull();
        runMakesTheTextEmpty();
        runKeepsATextThatFails();
        runReturnsTheNumberOfCommands();
        runReturnsThePlaceOfTheFailure();
        runAgainAfterAFailure();
        end("BoundariesOfPromises12To14Test");
    }

    private static void appendCharacter1To255() {
        says(APPEND, "character code, 1 to 255");
        for (int sign = 1; sign <= 255; sign++) {
            VillageLog log = new VillageLog();
            due("append(" + sign + ")", log.append(sign), 1);
        }
        due("0", new VillageLog().append(0), BAD);
        due("256", new VillageLog().append(256), BAD);
        VillageLog log = Villages.of(1, 1);
        log.append('g');
        log.append('0');
        log.append(';');
        due("the characters are those of their codes", log.run(), 1);
    }

    private static void appendReturnsTheLength() {
        says(APPEND, "Returns the new length of the text");
        VillageLog log = new VillageLog();
        for (int length = 1; length <= 60; length++) {
            due("append('x')", log.append('x'), length);
            due("the length", log.count(11), length);
        }
    }

    private static void appendOutOfRange() {
        says(APPEND, "INVALID_ARGUMENT if character is out of range");
        VillageLog log = new VillageLog();
        due("0", log.append(0), BAD);
        due("256", log.append(256), BAD);
        due("256 + 'x'", log.append(256 + 'x'), BAD);
        due("65536 + 'x'", log.append(65536 + 'x'), BAD);
        for (int strange : STRANGE) {
            due("append(" + strange + ")", log.append(strange), BAD);
        }
        due("the length", log.count(11), 0);
    }

    private static void appendIfThereAre60Characters() {
        says(APPEND, "CAPACITY_EXCEEDED if the text already has 60 characters.");
        VillageLog log = Villages.of(1, 1);
        Villages.write(log, "l0;".repeat(19) + "l0");
        due("the 60th", log.append(';'), 60);
        due("the 61st", log.append('l'), FULL);
        due("again", log.append(';'), FULL);
        due("the text is as it was", log.run(), 20);
        due("when it is empty", log.append('l'), 1);
        log.clearText();
        Villages.write(log, "x".repeat(60));
        due("a full text again", log.append('x'), FULL);
        log.clearText();
        due("when it is cleared", log.append('x'), 1);
    }

    private static void appendIsNoAction() {
        says(APPEND, "Appends a character to the text.");
        VillageLog log = Villages.of(1, 0);
        log.append('x');
        due("states", log.count(10), 1);
        due("undo() is that of come()", log.undo(), 0);
        due("villagers", log.count(0), 0);
        due("the text stays", log.count(11), 1);
    }

    private static void clearTextMakesItEmpty() {
        says(CLEAR, "Makes the text empty.");
        VillageLog log = Villages.of(1, 1);
        Villages.write(log, "g0;");
        log.clearText();
        due("the length", log.count(11), 0);
        due("nothing is run", log.run(), 0);
        due("nobody is away", log.count(1), 1);
        Villages.write(log, "b");
        due("nothing of it is left", log.run(), -1001);
        due("no action", log.count(10), 3);
    }

    private static void clearTextReturnsThePreviousLength() {
        says(CLEAR, "Returns the previous length of the text.");
        VillageLog log = new VillageLog();
        due("of an empty text", log.clearText(), 0);
        log.append('x');
        due("of one character", log.clearText(), 1);
        due("again", log.clearText(), 0);
        Villages.write(log, "x".repeat(60));
        log.append('x');
        due("of a full text", log.clearText(), 60);
        log.run();
        due("after a run", log.clearText(), 0);
    }

    private static void runIsOneAction() {
        says(RUN, "If it does not fail, this is one action");
        VillageLog log = Villages.of(3, 2);
        Villages.write(log, "p0:1;s1:0;l2;g2;b2;");
        isAction(log, "run()", log::run, 5);
        due("the text is empty though it is undone", log.count(11), 0);
        Villages.write(log, "g2;");
        isAction(log, "run() of one command", log::run, 1);
    }

    private static void runIsOneActionWithoutCommands() {
        says(RUN, "also without commands");
        VillageLog log = new VillageLog();
        isAction(log, "run()", log::run, 0);
        log.run();
        due("states", log.count(10), 1);
        log.run();
        due("states", log.count(10), 2);
    }

    private static void runIsOneActionIfTheHistoryIsFull() {
        says(RUN, "If it does not fail, this is one action");
        VillageLog log = Villages.of(7, 0);
        due("states", log.count(10), 5);
        due("run()", Villages.run(log, "g0;g1;g2;"), 3);
        due("states", log.count(10), 5);
        due("undo() of all its commands", log.undo(), 4);
        due("present", log.count(1), 7);
        for (int left = 3; left >= 0; left--) {
            due("undo()", log.undo(), left);
        }
        due("the oldest one was dropped", log.count(0), 3);
    }

    private static void runMakesTheTextEmpty() {
        says(RUN, "and the text becomes empty");
        VillageLog log = Villages.of(1, 1);
        due("run()", Villages.run(log, "l0;"), 1);
        due("the length", log.count(11), 0);
        due("run() again", log.run(), 0);
        due("append()", log.append('l'), 1);
        log.clearText();
        due("a full text", Villages.run(log, "l0;".repeat(20)), 20);
        due("the length", log.count(11), 0);
    }

    private static void runKeepsATextThatFails() {
        says(RUN, "if it fails, the text is kept.");
        VillageLog log = Villages.of(1, 1);
        due("a bad call", Villages.run(log, "l0;l1;"), -1003);
        due("the length", log.count(11), 6);
        due("a bad sign", Villages.run(log, "l0;x"), -1003);
        due("the length", log.count(11), 4);
        due("something is missing", Villages.run(log, "l0;l"), -1004);
        due("the length", log.count(11), 4);
        due("no action", log.count(10), 2);
        log.append('0');
        log.append(';');
        due("when it is there", log.run(), 2);
    }

    private static void runReturnsTheNumberOfCommands() {
        says(RUN, "Returns the number of commands");
        for (int commands = 0; commands <= 20; commands++) {
            due(commands + " commands", Villages.run(Villages.of(1, 1), "l0;".repeat(commands)), commands);
        }
        due("twelve long ones", Villages.run(Villages.of(1, 1), "p0:7;".repeat(12)), 12);
    }

    private static void runReturnsThePlaceOfTheFailure() {
        says(RUN, "-1000 minus the place of the failure if it fails.");
        VillageLog log = Villages.of(1, 1);
        due("the first place", Villages.run(log, "x"), -1000);
        due("the first command", Villages.run(log, "l1;"), -1000);
        due("the last place", Villages.run(log, "l0;".repeat(19) + "l0x"), -1059);
        due("the last command", Villages.run(log, "l0;".repeat(19) + "l1;"), -1057);
        due("the end of one character", Villages.run(log, "l"), -1001);
        due("the end of a full text", Villages.run(log, "l0;".repeat(18) + "p0:100"), -1060);
    }

    private static void runAgainAfterAFailure() {
        says(RUN, "if it fails, the text is kept.");
        VillageLog log = Villages.of(2, 1);
        due("the villager 2 is not there", Villages.run(log, "p0:1;l2;"), -1005);
        due("nor is the entry", log.count(4), 0);
        log.come();
        due("when the villager has come", log.run(), 2);
        due("the entry is there once", log.count(4), 1);
        due("it is learned", log.villager(2, 1), 1);
    }
}
