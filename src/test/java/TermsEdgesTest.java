/** The sentences of "What it is" and "Terms" that name an edge, each in a test of its own. */
public final class TermsEdgesTest {
    private static final Due due = new Due();
    private static final int ERROR = 1024;
    private static final int ALL = 16;
    private static final int DATA = 65536;
    private static final int SPOILT = 131072;
    private static final int BUS_1 = 262144;

    public static void main(String[] args) {
        fiveHundredAndTwelveCalls();
        leastAndGreatestCommands();
        faultAfterNoneAndAfterAThousand();
        faultSinceItWasArmed();
        lostAndSpoiltHitOneWord();
        cutsUntilArmedAgain();
        oneFaultAtMost();
        obeysGoodCommandsForItselfAlone();
        marksAreTakenAwayFirst();
        lastCommandButForTellCommand();
        forAllInTheSameWay();
        shutIsNotSentAtAll();
        receivesWhenAllCome();
        othersOfTheFourAreZero();
        sendsTheFirst();
        othersOfTheControllerStay();
        shutUnshutResetOfWhatIsSoAlready();
        shutIsTheOtherBus();
        resetIsForEitherBus();
        passNeedsBothStatuses();
        tellAllInAnyCase();
        tellCommandNeedsBothWords();
        statusWithErrorIsGood();
        threeAttempts();
        busChangesOnlyIfItGoesWell();
        lengthsOfTheKinds();
        phasesOfAPeriod();
        leastPhaseAmongEqualOnes();
        greatestLoadIsLeast();
        noLoadAboveTheBudget();
        framesGoRound();
        pollsInFrameZeroAlone();
        pollsAscendAndTryOnce();
        countIsZeroWhenItIsBack();
        noneOrAllAreDropped();
        droppedAreLeftOut();
        droppedWithThree();
        goodFrameAndFrameWithout();
        tellAllDoesNotCount();
        monitorHasSixty();
        due.end();
    }

    private static int toReceive(int terminal, int subaddress, int n) {
        return terminal * 2048 + subaddress * 32 + n;
    }

    private static int toSend(int terminal, int subaddress, int n) {
        return terminal * 2048 + 1024 + subaddress * 32 + n;
    }

    private static int modeCommand(int terminal, int code) {
        return terminal * 2048 + 1024 + code;
    }

    /** The latest words, the oldest first. */
    private static void latest(CommandBuses b, int... want) {
        for (int i = 0; i < want.length; i++) {
            due.is("word " + i + " of the latest", b.heard(want.length - 1 - i), want[i]);
        }
    }

    private static void onlyWords(CommandBuses b, int... want) {
        due.is("words", b.words(), want.length);
        latest(b, want);
    }

    // ---- what it is

    private static void fiveHundredAndTwelveCalls() {
        due.about("an object is used for at most 512 calls");
        CommandBuses b = Setup.tableOf(8);
        b.seal(Setup.NO_LIMIT);
        for (int call = 10; call <= 507; call++) {
            due.is("run, call " + call, b.run(), 8);
        }
        due.is("synchronized, call 508", b.terminal(0, 2), 2 * 498);
        due.is("words, call 509", b.words(), 16 * 498);
        due.is("the oldest, call 510", b.heard(59), modeCommand(2, 1));
        due.is("run, call 511", b.run(), 8);
        due.is("words, call 512", b.words(), 16 * 499);
    }

    // ---- words and faults

    private static void leastAndGreatestCommands() {
        due.about("the value terminal * 2048 + turn * 1024 + subaddress * 32 + n");
        int[][] messages = {Setup.give(0, 1, 1), Setup.give(5, 3, 4), Setup.take(0, 1, 1),
            Setup.take(5, 3, 4), Setup.tellAll(1, 1), Setup.tellAll(3, 4), Setup.mode(0, 1),
            Setup.mode(5, 18)};
        int[] commands = {33, 10340, 1057, 11364, 63521, 63588, 1025, 11282};
        int[] words = {3, 6, 3, 6, 2, 5, 2, 3};
        for (int i = 0; i < messages.length; i++) {
            CommandBuses b = Setup.sealed(messages[i]);
            b.run();
            due.is("words", b.words(), words[i]);
            due.is("the command", b.heard(words[i] - 1), commands[i]);
        }
        CommandBuses b = Setup.sealed(Setup.pass(0, 5, 3, 4));
        b.run();
        due.is("words", b.words(), 8);
        due.is("first the command to y", b.heard(7), 10340);
        due.is("then the command to x", b.heard(6), 1124);
    }

    private static void faultAfterNoneAndAfterAThousand() {
        due.about("hits the word that comes on this bus after k others");
        int[] ks = {0, 1, 2, 999, 1000};
        for (int k : ks) {
            for (int kind = 0; kind <= 2; kind++) {
                CommandBuses b = Setup.sealed(Setup.tellAll(1, 4), Setup.tellAll(2, 4));
                b.fault(0, kind, k);
                Setup.run(b, k / 10);
                due.is("words before the frame with it", b.words(), k / 10 * 10);
                b.run();
                int lost = kind == 0 ? 1 : kind == 1 ? 0 : 10 - k % 10;
                due.is("words after the frame with it", b.words(), k / 10 * 10 + 10 - lost);
                b.run();
                due.is("words after one more", b.words(), k / 10 * 10 + 10 - lost + (kind == 2 ? 0 : 10));
                if (kind == 1) {
                    due.is("the spoilt word", b.heard(19 - k % 10) & SPOILT, SPOILT);
                    due.is("the word after", b.heard(18 - k % 10) & SPOILT, 0);
                    if (k > 0) {
                        due.is("the word before", b.heard(20 - k % 10) & SPOILT, 0);
                    }
                }
            }
        }
    }

    private static void faultSinceItWasArmed() {
        due.about("since it was armed");
        CommandBuses b = Setup.sealed(Setup.tellAll(1, 1));
        b.run();
        b.fault(0, 0, 1);
        b.run();
        onlyWords(b, toReceive(31, 1, 1), DATA, toReceive(31, 1, 1));
        b.fault(0, 0, 3);
        b.run();
        b.fault(0, 0, 3);
        b.run();
        due.is("counted anew when it is armed again", b.words(), 7);
        b.run();
        due.is("and hits then", b.words(), 8);
    }

    private static void lostAndSpoiltHitOneWord() {
        due.about("kind 0: nobody hears it");
        CommandBuses lost = Setup.sealed(Setup.tellAll(1, 1));
        lost.fault(0, 0, 0);
        lost.run();
        onlyWords(lost, DATA);
        due.is("the terminal did nothing", lost.terminal(0, 1), 0);
        lost.run();
        onlyWords(lost, DATA, toReceive(31, 1, 1), DATA);
        due.about("kind 1: it is heard, but is not good");
        CommandBuses spoilt = Setup.sealed(Setup.tellAll(1, 1));
        spoilt.fault(0, 1, 0);
        spoilt.run();
        onlyWords(spoilt, SPOILT + toReceive(31, 1, 1), DATA);
        due.is("the terminal did nothing", spoilt.terminal(0, 1), 0);
        spoilt.run();
        onlyWords(spoilt, SPOILT + toReceive(31, 1, 1), DATA, toReceive(31, 1, 1), DATA);
    }

    private static void cutsUntilArmedAgain() {
        due.about("kind 2: this word and all that come after it, until a fault is armed on this bus again");
        CommandBuses b = Setup.sealed(Setup.tellAll(1, 1));
        b.fault(0, 2, 1);
        Setup.run(b, 100);
        onlyWords(b, toReceive(31, 1, 1));
        due.yes("armed on the other bus", b.fault(1, 1, 0));
        b.run();
        due.is("words", b.words(), 1);
        for (int kind = 0; kind <= 2; kind++) {
            int before = b.words();
            due.yes("armed on this bus", b.fault(0, kind, 2));
            b.run();
            due.is("the bus is whole for two words", b.words(), before + 2);
            b.fault(0, 2, 0);
            b.run();
            due.is("and cut again", b.words(), before + 2);
        }
    }

    private static void oneFaultAtMost() {
        due.about("a bus has one fault at most");
        CommandBuses b = Setup.sealed(Setup.tellAll(1, 4));
        b.fault(0, 0, 0);
        b.fault(0, 0, 2);
        b.fault(0, 0, 4);
        b.run();
        due.is("one of five is lost", b.words(), 4);
        b.run();
        due.is("none later", b.words(), 9);
        b.fault(0, 2, 2);
        b.fault(0, 1, 4);
        b.run();
        due.is("none is cut", b.words(), 14);
        due.is("the last is spoilt", b.heard(0), SPOILT + DATA);
    }

    // ---- terminals

    private static void obeysGoodCommandsForItselfAlone() {
        due.about("a live terminal that hears a good command for itself obeys it");
        CommandBuses b = Setup.sealed(Setup.mode(5, 1));
        b.run();
        for (int t = 0; t < 6; t++) {
            due.is("last command of " + t, b.terminal(t, 1), t == 5 ? modeCommand(5, 1) : 0);
            due.is("synchronized, " + t, b.terminal(t, 2), t == 5 ? 1 : 0);
        }
        b.live(5, false);
        b.run();
        due.is("not live", b.terminal(5, 2), 1);
        b.live(5, true);
        b.fault(0, 1, 0);
        b.run();
        due.is("a spoilt command, then a good one", b.terminal(5, 2), 2);
        b.fault(0, 0, 0);
        b.run();
        due.is("a lost command, then a good one", b.terminal(5, 2), 3);
    }

    private static void marksAreTakenAwayFirst() {
        due.about("unless it is TELL STATUS or TELL COMMAND, both marks of its status are taken away first");
        int[][] commands = {Setup.give(5, 1, 1), Setup.take(5, 1, 1), Setup.pass(5, 0, 1, 1),
            Setup.pass(0, 5, 1, 1), Setup.mode(5, 1), Setup.mode(5, 4), Setup.mode(5, 5), Setup.mode(5, 8)};
        for (int[] command : commands) {
            int[] marks = {ERROR, ALL};
            for (int mark : marks) {
                CommandBuses b = Setup.sealed(Setup.tellAll(2, 1), command);
                b.fault(0, 1, mark == ERROR ? 1 : 1000);
                due.is("run", b.run(), 2);
                due.is("status", b.terminal(5, 0), 10240);
                for (int i = 0; i < b.words(); i++) {
                    due.no("a status with the mark is sent", b.heard(i) == 10240 + mark);
                }
            }
        }
        int[] keeping = {2, 18};
        for (int code : keeping) {
            CommandBuses all = Setup.sealed(Setup.tellAll(2, 1), Setup.mode(5, code));
            all.run();
            due.is("ALL stays", all.terminal(5, 0), 10240 + ALL);
            due.is("and is told", all.heard(code == 2 ? 0 : 1), 10240 + ALL);
            CommandBuses error = Setup.sealed(Setup.tellAll(2, 1), Setup.mode(5, code));
            error.fault(0, 1, 1);
            error.run();
            due.is("ERROR stays", error.terminal(5, 0), 10240 + ERROR);
            due.is("and is told", error.heard(code == 2 ? 0 : 1), 10240 + ERROR);
        }
    }

    private static void lastCommandButForTellCommand() {
        due.about("then (but for TELL COMMAND) it is the terminal's last command");
        int[] codes = {1, 2, 4, 5, 8};
        for (int code : codes) {
            CommandBuses b = Setup.sealed(Setup.mode(5, code), Setup.mode(5, 18));
            b.run();
            due.is("last command", b.terminal(5, 1), modeCommand(5, code));
            due.is("what TELL COMMAND told", b.taken(1, 0), modeCommand(5, code));
        }
        CommandBuses b = Setup.sealed(Setup.mode(5, 18));
        b.give(0, 0, 9);
        b.run();
        due.is("0 at first", b.taken(0, 0), 0);
        due.is("0 still", b.terminal(5, 1), 0);
    }

    private static void forAllInTheSameWay() {
        due.about("it hears a command for all in the same way");
        CommandBuses b = Setup.sealed(Setup.tellAll(3, 4));
        b.live(2, false);
        b.fault(0, 1, 4);
        b.run();
        for (int t = 0; t < 6; t++) {
            due.is("last command of " + t, b.terminal(t, 1), t == 2 ? 0 : 63588);
            due.is("ERROR of " + t, b.terminal(t, 0), t * 2048 + (t == 2 ? 0 : ERROR));
        }
        b.run();
        for (int t = 0; t < 6; t++) {
            due.is("ALL alone of " + t, b.terminal(t, 0), t * 2048 + (t == 2 ? 0 : ALL));
        }
        b.fault(0, 0, 1);
        b.run();
        for (int t = 0; t < 6; t++) {
            due.is("ERROR alone of " + t, b.terminal(t, 0), t * 2048 + (t == 2 ? 0 : ERROR));
        }
        b.fault(0, 1, 0);
        b.run();
        due.is("a spoilt command changes nothing", b.terminal(5, 0), 10240 + ERROR);
        due.is("no terminal answers", b.words(), 5 + 5 + 4 + 5);
    }

    private static void shutIsNotSentAtAll() {
        due.about("what it sends on a bus on which its sender is shut is not sent at all");
        int[][] messages = {Setup.give(2, 1, 1), Setup.take(2, 1, 4), Setup.mode(2, 1), Setup.mode(2, 2),
            Setup.mode(2, 4), Setup.mode(2, 5), Setup.mode(2, 18)};
        for (int[] message : messages) {
            CommandBuses b = Setup.sealed(Setup.every(4, Setup.mode(2, 4)), Setup.every(4, message));
            b.run();
            int before = b.words();
            b.fault(0, 2, 0);
            due.is("the attempt on the shut bus", b.run(), 0);
            due.is("outcome", b.outcome(1), 4);
            due.is("the controller's words alone", b.words(), before + (message[0] == 0 ? 2 : 1));
            due.is("bus", b.bus(), 0);
        }
    }

    private static void receivesWhenAllCome() {
        due.about("RECEIVE: if all n data words come and are good .. if not all of them come good");
        for (int n = 1; n <= 4; n++) {
            for (int hit = 1; hit <= n; hit++) {
                for (int kind = 0; kind <= 2; kind++) {
                    CommandBuses b = Setup.sealed(Setup.give(3, 2, n));
                    Setup.giveAll(b, 0, 5, 6, 7, 8);
                    b.run();
                    Setup.giveAll(b, 0, 15, 16, 17, 18);
                    b.fault(0, 2, 0);
                    b.fault(1, kind, hit);
                    due.is("run", b.run(), 0);
                    int heard = kind == 0 ? n : kind == 1 ? n + 1 : hit;
                    due.is("it sends nothing", b.words(), n + 2 + heard);
                    due.is("ERROR", b.terminal(3, 0), 6144 + ERROR);
                    due.is("the message of before", b.received(3, 2, 0), 5);
                    due.is("the message of before", b.received(3, 2, n - 1), 4 + n);
                }
            }
        }
    }

    private static void othersOfTheFourAreZero() {
        due.about("RECEIVE: n values; the others of the four are 0");
        for (int n = 1; n <= 4; n++) {
            int[][] messages = {Setup.give(5, 3, n), Setup.tellAll(3, n), Setup.pass(0, 5, 3, n)};
            for (int[] message : messages) {
                CommandBuses b = Setup.sealed(Setup.give(5, 3, 4), message);
                Setup.giveAll(b, 0, 21, 22, 23, 24);
                Setup.giveAll(b, 1, 31, 32, 33, 34);
                Setup.publishAll(b, 0, 3, 31, 32, 33, 34);
                b.run();
                for (int k = 0; k < 4; k++) {
                    due.is("value " + k + " of " + n, b.received(5, 3, k), k < n ? 31 + k : 0);
                }
            }
        }
    }

    private static void sendsTheFirst() {
        due.about("SEND: the first n values of the subaddress's message to send");
        for (int n = 1; n <= 4; n++) {
            CommandBuses b = Setup.sealed(Setup.take(4, 3, n));
            Setup.publishAll(b, 4, 3, 41, 42, 43, 44);
            b.run();
            due.is("words", b.words(), 2 + n);
            due.is("the command", b.heard(n + 1), toSend(4, 3, n));
            due.is("the status", b.heard(n), 8192);
            for (int k = 0; k < n; k++) {
                due.is("value " + k, b.heard(n - 1 - k), DATA + 41 + k);
            }
        }
    }

    private static void othersOfTheControllerStay() {
        due.about("TAKE: these are the controller's values of the message (the others stay)");
        for (int n = 1; n <= 4; n++) {
            CommandBuses b = Setup.sealed(Setup.take(4, 3, n));
            Setup.publishAll(b, 4, 3, 41, 42, 43, 44);
            Setup.giveAll(b, 0, 51, 52, 53, 54);
            b.run();
            for (int k = 0; k < 4; k++) {
                due.is("value " + k + " of " + n, b.taken(0, k), k < n ? 41 + k : 51 + k);
            }
        }
        for (int hit = 0; hit <= 5; hit++) {
            CommandBuses b = Setup.sealed(Setup.take(4, 3, 4));
            Setup.publishAll(b, 4, 3, 41, 42, 43, 44);
            Setup.giveAll(b, 0, 51, 52, 53, 54);
            b.fault(0, 2, 0);
            b.fault(1, 1, hit);
            due.is("run", b.run(), 0);
            for (int k = 0; k < 4; k++) {
                due.is("all stay when it does not go well", b.taken(0, k), 51 + k);
            }
        }
    }

    private static void shutUnshutResetOfWhatIsSoAlready() {
        due.about("SHUT, UNSHUT, RESET of senders that are so already");
        CommandBuses b = Setup.sealed(Setup.mode(1, 5), Setup.mode(1, 8), Setup.mode(1, 4), Setup.mode(1, 4));
        due.is("run", b.run(), 4);
        due.is("not shut on bus 0", b.terminal(1, 3), 0);
        due.is("shut on bus 1", b.terminal(1, 4), 1);
        CommandBuses once = Setup.sealed(Setup.mode(1, 4), Setup.mode(1, 4), Setup.mode(1, 5));
        due.is("run", once.run(), 3);
        due.is("one UNSHUT opens it", once.terminal(1, 4), 0);
    }

    private static void shutIsTheOtherBus() {
        due.about("SHUT, UNSHUT: its sender on the other bus than that of the command");
        for (int own = 0; own <= 1; own++) {
            CommandBuses b = Setup.sealed(Setup.every(4, Setup.mode(0, 2)), Setup.every(4, Setup.mode(1, 4)),
                Setup.every(4, Setup.mode(1, 5)));
            if (own == 1) {
                b.fault(0, 2, 0);
            }
            b.run();
            due.is("bus", b.bus(), own);
            b.run();
            due.is("its own", b.terminal(1, 3 + own), 0);
            due.is("the other", b.terminal(1, 4 - own), 1);
            b.run();
            due.is("its own", b.terminal(1, 3 + own), 0);
            due.is("the other", b.terminal(1, 4 - own), 0);
        }
    }

    private static void resetIsForEitherBus() {
        due.about("RESET: its senders are not shut any more on either bus");
        for (int last = 0; last <= 1; last++) {
            CommandBuses b = Setup.sealed(Setup.every(4, Setup.mode(1, 4)), Setup.every(4, Setup.mode(1, 8)));
            b.fault(last, 2, 0);
            b.run();
            b.open();
            b.seal(Setup.NO_LIMIT);
            b.fault(last, 0, 1000);
            b.fault(1 - last, 2, 0);
            b.run();
            due.is("shut on bus 0", b.terminal(1, 3), 1);
            due.is("shut on bus 1", b.terminal(1, 4), 1);
            due.is("RESET on bus " + last, b.run(), 1);
            latest(b, last * BUS_1 + modeCommand(1, 8), last * BUS_1 + 2048);
            due.is("not shut on bus 0", b.terminal(1, 3), 0);
            due.is("not shut on bus 1", b.terminal(1, 4), 0);
        }
    }

    // ---- attempts

    private static void passNeedsBothStatuses() {
        due.about("PASS: it goes well when both statuses come good");
        int[] statuses = {2, 5};
        for (int at : statuses) {
            for (int kind = 0; kind <= 1; kind++) {
                CommandBuses b = Setup.sealed(Setup.pass(5, 0, 1, 2));
                Setup.publishAll(b, 5, 1, 61, 62);
                b.fault(0, 2, 0);
                b.fault(1, kind, at);
                due.is("run", b.run(), 0);
                due.is("outcome", b.outcome(0), 4);
                due.is("y has its message all the same", b.received(0, 1, 1), 62);
                due.is("y has no mark", b.terminal(0, 0), 0);
            }
        }
    }

    private static void tellAllInAnyCase() {
        due.about("TELL ALL: it goes well in any case");
        CommandBuses b = Setup.sealed(Setup.tellAll(1, 1));
        for (int t = 0; t < 6; t++) {
            b.live(t, false);
        }
        due.is("with none live", b.run(), 1);
        due.is("outcome", b.outcome(0), 1);
        b.fault(0, 2, 0);
        b.fault(1, 2, 0);
        due.is("with both buses cut", b.run(), 1);
        due.is("outcome", b.outcome(0), 1);
        due.is("words", b.words(), 2);
        due.is("bus", b.bus(), 0);
    }

    private static void tellCommandNeedsBothWords() {
        due.about("MODE: and with TELL COMMAND also a good data word");
        for (int hit = 0; hit <= 3; hit++) {
            CommandBuses b = Setup.sealed(Setup.every(4, Setup.mode(5, 1)), Setup.every(4, Setup.mode(5, 18)));
            Setup.giveAll(b, 1, 51, 52, 53, 54);
            b.run();
            b.fault(0, 2, 0);
            b.fault(1, 1, hit);
            due.is("run with word " + hit + " hit", b.run(), hit == 3 ? 1 : 0);
            due.is("the first value", b.taken(1, 0), hit == 3 ? modeCommand(5, 1) : 51);
            due.is("the last value", b.taken(1, 3), 54);
            if (hit == 3) {
                latest(b, BUS_1 + modeCommand(5, 18), BUS_1 + 10240, BUS_1 + DATA + modeCommand(5, 1));
            }
        }
    }

    private static void statusWithErrorIsGood() {
        due.about("statuses with the ERROR mark are good too, when the word is");
        CommandBuses b = Setup.sealed(Setup.every(4, Setup.tellAll(1, 1)), Setup.every(4, Setup.mode(3, 2)));
        b.fault(0, 0, 1);
        b.run();
        due.is("run", b.run(), 1);
        due.is("outcome", b.outcome(1), 1);
        latest(b, modeCommand(3, 2), 6144 + ERROR);
        b.open();
        b.seal(Setup.NO_LIMIT);
        b.fault(0, 0, 1);
        b.run();
        b.fault(0, 1, 1);
        due.is("run", b.run(), 1);
        due.is("not when the word is spoilt", b.outcome(1), 2);
        latest(b, modeCommand(3, 2), SPOILT + 6144 + ERROR, modeCommand(3, 2), 6144 + ERROR);
    }

    private static void threeAttempts() {
        due.about("one attempt .. a second one on the same bus .. a third one on the other bus");
        CommandBuses b = Setup.sealed(Setup.mode(3, 2));
        b.live(3, false);
        due.is("run", b.run(), 0);
        due.is("outcome", b.outcome(0), 4);
        int c = modeCommand(3, 2);
        onlyWords(b, c, c, BUS_1 + c);
        b.live(3, true);
        b.fault(0, 2, 0);
        b.run();
        due.is("outcome", b.outcome(0), 3);
        b.live(3, false);
        b.fault(0, 0, 1000);
        b.run();
        due.is("outcome", b.outcome(0), 4);
        onlyWords(b, c, c, BUS_1 + c, BUS_1 + c, BUS_1 + 6144, BUS_1 + c, BUS_1 + c, c);
    }

    private static void busChangesOnlyIfItGoesWell() {
        due.about("the other bus, which is the controller's bus from then on if it goes well");
        for (int kind = 0; kind <= 1; kind++) {
            CommandBuses b = Setup.sealed(Setup.mode(3, 2));
            b.fault(0, 2, 1);
            b.fault(1, kind, 1);
            due.is("run", b.run(), 0);
            due.is("bus", b.bus(), 0);
            due.is("run", b.run(), 1);
            due.is("bus", b.bus(), 1);
            due.is("outcome", b.outcome(0), 3);
            due.is("run", b.run(), 1);
            due.is("outcome", b.outcome(0), 1);
        }
    }

    // ---- frames

    private static void loads(CommandBuses b, int... want) {
        b.seal(Setup.NO_LIMIT);
        for (int f = 0; f < 4; f++) {
            due.is("load(" + f + ")", b.load(f), want[f]);
        }
        b.open();
    }

    private static void lengthsOfTheKinds() {
        due.about("the length is 3 * (20 * w + 10 * u)");
        int[] ns = {1, 4};
        for (int n : ns) {
            loads(Setup.table(Setup.every(4, Setup.give(0, 1, n))), 150 + 60 * n, 0, 0, 0);
            loads(Setup.table(Setup.every(4, Setup.take(0, 1, n))), 150 + 60 * n, 0, 0, 0);
            loads(Setup.table(Setup.every(4, Setup.pass(0, 1, 1, n))), 300 + 60 * n, 0, 0, 0);
            loads(Setup.table(Setup.every(4, Setup.tellAll(1, n))), 60 + 60 * n, 0, 0, 0);
        }
        loads(Setup.table(Setup.every(4, Setup.mode(0, 1))), 150, 0, 0, 0);
        loads(Setup.table(Setup.every(4, Setup.mode(0, 8))), 150, 0, 0, 0);
        loads(Setup.table(Setup.every(4, Setup.mode(0, 18))), 210, 0, 0, 0);
    }

    private static void phasesOfAPeriod() {
        due.about("a phase from 0 to its period - 1; it is in the frames phase, phase + period, ..");
        int[] periods = {1, 2, 4};
        for (int period : periods) {
            CommandBuses b = new CommandBuses();
            for (int phase = 0; phase < period; phase++) {
                due.is("message", Setup.add(b, Setup.every(period, Setup.mode(phase, 1))), phase);
            }
            due.is("seal", b.seal(Setup.NO_LIMIT), 150);
            for (int run = 0; run < 9; run++) {
                due.is("run", b.run(), 1);
                due.is("the terminal of the phase", b.heard(0), run % period * 2048);
            }
        }
    }

    private static void leastPhaseAmongEqualOnes() {
        due.about("the least phase among equal ones");
        CommandBuses b = Setup.table(Setup.every(4, Setup.mode(0, 1)));
        loads(b, 150, 0, 0, 0);
        Setup.add(b, Setup.every(4, Setup.mode(0, 1)));
        loads(b, 150, 150, 0, 0);
        Setup.add(b, Setup.every(4, Setup.mode(0, 1)));
        loads(b, 150, 150, 150, 0);
        Setup.add(b, Setup.every(4, Setup.mode(0, 1)));
        loads(b, 150, 150, 150, 150);
        Setup.add(b, Setup.every(4, Setup.mode(0, 1)));
        loads(b, 300, 150, 150, 150);
        CommandBuses two = Setup.table(Setup.every(2, Setup.mode(0, 1)));
        loads(two, 150, 0, 150, 0);
        Setup.add(two, Setup.every(2, Setup.mode(0, 1)));
        loads(two, 150, 150, 150, 150);
        Setup.add(two, Setup.every(2, Setup.mode(0, 1)));
        loads(two, 300, 150, 300, 150);
    }

    private static void greatestLoadIsLeast() {
        due.about("that phase for which the greatest load of these frames, with it, is least");
        CommandBuses b = Setup.table(Setup.every(4, Setup.tellAll(1, 4)), Setup.every(4, Setup.tellAll(1, 3)),
            Setup.every(4, Setup.tellAll(1, 1)), Setup.every(4, Setup.tellAll(1, 3)));
        loads(b, 300, 240, 120, 240);
        Setup.add(b, Setup.every(2, Setup.tellAll(1, 1)));
        loads(b, 300, 360, 120, 360);
        Setup.add(b, Setup.every(2, Setup.tellAll(1, 4)));
        loads(b, 600, 360, 420, 360);
        Setup.add(b, Setup.every(4, Setup.tellAll(1, 1)));
        loads(b, 600, 480, 420, 360);
        Setup.add(b, Setup.every(4, Setup.tellAll(1, 1)));
        loads(b, 600, 480, 420, 480);
    }

    private static void noLoadAboveTheBudget() {
        due.about("the table can be sealed when no load is above the budget");
        for (int frame = 0; frame < 4; frame++) {
            CommandBuses b = new CommandBuses();
            for (int f = 0; f < 4; f++) {
                Setup.add(b, Setup.every(4, Setup.tellAll(1, f == frame ? 4 : 1)));
            }
            due.is("one less than the load of frame " + frame, b.seal(299), -2);
            due.is("as much as the load of frame " + frame, b.seal(300), 300);
            due.is("load", b.load(frame), 300);
            b.open();
            due.is("one more", b.seal(301), 300);
        }
    }

    private static void framesGoRound() {
        due.about("running goes through the frames 0, 1, 2, 3, 0, ..");
        CommandBuses b = Setup.sealed(Setup.every(4, Setup.mode(0, 1)), Setup.every(4, Setup.mode(1, 1)),
            Setup.every(4, Setup.mode(2, 1)), Setup.every(4, Setup.mode(3, 1)));
        for (int run = 0; run < 21; run++) {
            due.is("run " + run, b.run(), 1);
            due.is("the terminal of the frame", b.heard(0), run % 4 * 2048);
        }
    }

    /** After the frames 0, 1 and 2, in each of which its one message failed. */
    private static CommandBuses withTerminalDropped(int terminal) {
        CommandBuses b = Setup.sealed(Setup.mode(terminal, 1));
        b.live(terminal, false);
        Setup.run(b, 3);
        due.is("dropped", b.terminal(terminal, 6), 1);
        return b;
    }

    private static void pollsInFrameZeroAlone() {
        due.about("first, in frame 0, for each dropped terminal .. one attempt");
        for (int t = 0; t < 6; t++) {
            CommandBuses b = withTerminalDropped(t);
            for (int run = 3; run < 20; run++) {
                int before = b.words();
                due.is("run", b.run(), 0);
                due.is("words in frame " + run % 4, b.words(), before + (run % 4 == 0 ? 1 : 0));
                due.is("bad frames stay", b.terminal(t, 5), 3);
            }
            due.is("the poll", b.heard(0), modeCommand(t, 2));
            b.live(t, true);
            due.is("frame 0: polled, then done", b.run(), 1);
            due.is("dropped no more", b.terminal(t, 6), 0);
            due.is("its count of bad frames", b.terminal(t, 5), 0);
            latest(b, modeCommand(t, 2), t * 2048, modeCommand(t, 1), t * 2048);
        }
    }

    private static void pollsAscendAndTryOnce() {
        due.about("in ascending order one attempt .. on the controller's bus");
        for (int own = 0; own <= 1; own++) {
            CommandBuses b = Setup.sealed(Setup.mode(5, 1), Setup.mode(3, 1), Setup.mode(0, 1), Setup.mode(1, 2));
            if (own == 1) {
                b.fault(0, 2, 0);
            }
            b.live(5, false);
            b.live(3, false);
            b.live(0, false);
            Setup.run(b, 4);
            int before = b.words();
            b.run();
            due.is("bus", b.bus(), own);
            int on = own * BUS_1;
            due.is("words", b.words(), before + 5);
            latest(b, on + modeCommand(0, 2), on + modeCommand(3, 2), on + modeCommand(5, 2),
                on + modeCommand(1, 2), on + 2048);
        }
        due.about("when it goes well the terminal is dropped no more");
        for (int hit = 0; hit <= 2; hit++) {
            CommandBuses b = withTerminalDropped(4);
            b.run();
            b.live(4, true);
            b.fault(0, 1, hit);
            due.is("run with word " + hit + " spoilt", b.run(), hit == 2 ? 1 : 0);
            due.is("dropped", b.terminal(4, 6), hit == 2 ? 0 : 1);
            due.is("bad frames", b.terminal(4, 5), hit == 2 ? 0 : 3);
        }
    }

    /** The message of the terminal is in frame 1, so that in frame 0 the poll alone can count. */
    private static void countIsZeroWhenItIsBack() {
        due.about("the terminal is dropped no more, its count of bad frames 0");
        CommandBuses b = Setup.sealed(Setup.every(4, Setup.mode(0, 2)), Setup.every(4, Setup.mode(4, 1)));
        b.live(4, false);
        Setup.run(b, 12);
        due.is("bad frames", b.terminal(4, 5), 3);
        due.is("dropped", b.terminal(4, 6), 1);
        b.live(4, true);
        due.is("frame 0", b.run(), 1);
        due.is("bad frames", b.terminal(4, 5), 0);
        due.is("dropped", b.terminal(4, 6), 0);
        b.live(4, false);
        due.is("frame 1", b.run(), 0);
        due.is("bad frames", b.terminal(4, 5), 1);
    }

    private static void noneOrAllAreDropped() {
        due.about("for each dropped terminal: none, or all six");
        CommandBuses b = new CommandBuses();
        for (int t = 0; t < 6; t++) {
            Setup.add(b, Setup.mode(t, 1));
        }
        b.seal(Setup.NO_LIMIT);
        Setup.run(b, 5);
        due.is("none is polled", b.words(), 5 * 12);
        for (int t = 0; t < 6; t++) {
            b.live(t, false);
        }
        due.is("frames 1, 2 and 3", b.run() + b.run() + b.run(), 0);
        for (int t = 0; t < 6; t++) {
            due.is("dropped", b.terminal(t, 6), 1);
        }
        int before = b.words();
        due.is("frame 0", b.run(), 0);
        due.is("six polls", b.words(), before + 6);
        b.open();
        b.seal(Setup.NO_LIMIT);
        for (int t = 0; t < 6; t++) {
            b.live(t, true);
        }
        due.is("all come back, and all is done", b.run(), 6);
    }

    private static void droppedAreLeftOut() {
        due.about("but not those of which a terminal is dropped");
        int[][] messages = {Setup.give(4, 1, 1), Setup.take(4, 1, 1), Setup.pass(4, 2, 1, 1),
            Setup.pass(2, 4, 1, 1), Setup.mode(4, 2), Setup.tellAll(1, 1), Setup.give(2, 1, 1)};
        for (int[] message : messages) {
            CommandBuses b = withTerminalDropped(4);
            b.open();
            Setup.add(b, message);
            b.seal(Setup.NO_LIMIT);
            boolean left = message[0] != 3 && (message[1] == 4 || message[2] == 4);
            due.is("run", b.run(), left ? 0 : 1);
            due.is("outcome", b.outcome(1), left ? 0 : 1);
            due.is("bad frames of the other", b.terminal(2, 5), 0);
        }
    }

    private static void droppedWithThree() {
        due.about("its count of bad frames goes up by 1 .. with 3 it is dropped");
        for (int t = 0; t < 6; t++) {
            CommandBuses b = Setup.sealed(Setup.give(t, 1, 1), Setup.take(t, 1, 1), Setup.mode(t, 2));
            b.live(t, false);
            for (int bad = 1; bad <= 3; bad++) {
                due.is("run", b.run(), 0);
                due.is("one for three messages of a frame", b.terminal(t, 5), bad);
                due.is("dropped", b.terminal(t, 6), bad == 3 ? 1 : 0);
            }
            int before = b.words();
            b.run();
            due.is("no message is done any more", b.words(), before);
            due.is("no fourth", b.terminal(t, 5), 3);
        }
        due.about("if one of them had the outcome 4");
        CommandBuses first = Setup.sealed(Setup.pass(1, 0, 1, 1), Setup.mode(1, 2));
        first.live(0, false);
        first.run();
        due.is("the first of two", first.terminal(1, 5), 1);
        CommandBuses last = Setup.sealed(Setup.mode(1, 2), Setup.pass(0, 1, 1, 1));
        last.live(0, false);
        last.run();
        due.is("the last of two", last.terminal(1, 5), 1);
    }

    private static void goodFrameAndFrameWithout() {
        due.about("and is 0 otherwise");
        CommandBuses b = Setup.sealed(Setup.mode(5, 1));
        b.live(5, false);
        Setup.run(b, 2);
        due.is("two", b.terminal(5, 5), 2);
        b.live(5, true);
        b.fault(0, 2, 0);
        b.run();
        due.is("outcome 3 is not bad", b.terminal(5, 5), 0);
        due.is("outcome", b.outcome(0), 3);
        b.live(5, false);
        Setup.run(b, 2);
        due.is("two again", b.terminal(5, 5), 2);
        due.is("not dropped", b.terminal(5, 6), 0);
        due.about("for each terminal of a message that was done");
        CommandBuses c = Setup.sealed(Setup.every(4, Setup.mode(5, 1)));
        c.live(5, false);
        for (int run = 0; run < 12; run++) {
            c.run();
            due.is("bad frames after frame " + run, c.terminal(5, 5), run / 4 + 1);
            due.is("another has none", c.terminal(4, 5), 0);
        }
        due.is("dropped", c.terminal(5, 6), 1);
    }

    private static void tellAllDoesNotCount() {
        due.about("(for TELL ALL no terminal counts)");
        CommandBuses b = Setup.sealed(Setup.every(2, Setup.mode(0, 1)), Setup.every(2, Setup.tellAll(1, 1)));
        b.live(0, false);
        for (int run = 0; run < 6; run++) {
            b.run();
            due.is("TELL ALL makes it neither bad nor good", b.terminal(0, 5), run / 2 + 1);
        }
        due.is("dropped", b.terminal(0, 6), 1);
        due.is("the others are not", b.terminal(1, 5) + b.terminal(1, 6), 0);
    }

    // ---- the monitor

    private static void monitorHasSixty() {
        due.about("the monitor has the latest 60");
        CommandBuses b = Setup.sealed(Setup.tellAll(1, 4));
        due.is("none at first", b.heard(0), -1);
        for (int run = 1; run <= 26; run++) {
            Setup.giveAll(b, 0, 10 * run, 10 * run + 1, 10 * run + 2, 10 * run + 3);
            b.run();
            due.is("words", b.words(), 5 * run);
            due.is("the latest", b.heard(0), DATA + 10 * run + 3);
            int oldest = Math.min(5 * run, 60) - 1;
            due.is("the oldest", b.heard(oldest), toReceive(31, 1, 4));
            due.is("the oldest but one", b.heard(oldest - 1), DATA + 10 * Math.max(1, run - 11));
            due.is("none before it", b.heard(oldest + 1), -1);
        }
    }
}
