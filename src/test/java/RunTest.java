/**
 * Runs of calls in which what one promise changes is seen in the answers of others. The answers are worked out by hand
 * from the document.
 */
public final class RunTest {
    private static final String BLANKS = " ".repeat(20);

    private RunTest() {
    }

    public static void main(String[] args) {
        shutBehindTake();
        rideBehindShut();
        shutBehindLayOut();
        shutBetweenTwoLegs();
        rulesBehindTake();
        wakeBehindTake();
        payRulesBehindTake();
        carryBehindLayOut();
        illBehindLayOut();
        illAndTakenAgain();
        takeBehindLayOut();
        bagBehindLayOut();
        bagsOfRanksOneBehindTheOther();
        rulesRefused();
        rulesRefusedBehindOthers();
        tapeFull();
        tapeFullRefused();
        tapeCutAndFedOn();
        rideAndCourierBehindLayOut();
        soonestBehindShutAndRules();
        soonestNotByTaken();
        twelveTakenAndIll();
        wholeDay();
        Checks.close("RunTest");
    }

    private static void shutBehindTake() {
        Script.run("shut behind take",
            "ride 0 5 1 10 = 0", "ride 1 12 2 20 = 1", "ride 2 22 3 25 = 2", "courier 0 3 = 0",
            "take 0 0 = 0", "take 0 1 = 0",
            "shut 1 12 12 = 1",
            "count 20 = 2", "taken 0 0 = 0", "taken 0 1 = 1", "awake 0 0 = 5", "awake 0 1 = 15", "pay 0 = 13",
            // he is in town 2 at 20, and awake since 5, all the same
            "take 0 2 = 0", "awake 0 2 = 20", "pay 0 = 16",
            "soonest 0 0 2 = -1", "soonest 0 0 1 = 10", "soonest 2 20 3 = 25",
            "ill 0 12 = 2", "take 0 1 = 4", "take 0 2 = 2", "pay 0 = 5",
            "shut 0 5 5 = 2", "taken 0 0 = 0", "ill 0 6 = 0", "ill 0 5 = 1", "take 0 0 = 4", "pay 0 = 0",
            "count 3 = 2");
    }

    private static void rideBehindShut() {
        Script.run("ride behind shut",
            "shut 1 10 11 = 1", "shut 0 20 20 = 2", "courier 0 0 = 0",
            "ride 0 5 1 10 = 0", "ride 0 5 1 11 = 1", "ride 0 20 1 25 = 2", "ride 0 6 1 9 = 3", "ride 0 6 1 12 = 4",
            "take 0 0 = 4", "take 0 1 = 4", "take 0 2 = 4", "soonest 0 0 1 = 9", "soonest 0 7 1 = -1", "take 0 4 = 0",
            "bag 0 0 1 1 0 0 = 0", "layOut = 0", "laid 0 0 = 12", "load 0 0 = 1");
    }

    private static void shutBehindLayOut() {
        Script.run("shut behind layOut",
            "ride 0 5 1 10 = 0", "ride 1 12 2 20 = 1", "courier 0 3 = 0", "take 0 0 = 0", "take 0 1 = 0",
            "bag 0 4 2 6 1 20 = 0", "bag 0 4 1 5 0 9 = 1", "layOut = 0",
            "laid 0 0 = 20", "laid 1 0 = 10", "load 0 0 = 11", "load 0 1 = 6",
            "shut 1 12 12 = 1",
            "laid 0 0 = 20", "laid 0 1 = 0", "laid 0 2 = 2", "laid 0 3 = 3", "leg 0 1 1 = 1", "hand 0 11 = 0",
            "hand 0 20 = 102",
            "load 0 0 = 11", "load 0 1 = 6",
            "layOut = 1",
            "laid 0 0 = -1", "laid 0 1 = -1", "laid 0 2 = 0", "laid 0 3 = 1", "leg 0 0 1 = -1", "seal 0 0 0 = 4",
            "seal 0 0 1 = 100",
            "seal 0 1 0 = -1", "hand 0 3 = -1", "hand 0 11 = 100", "hand 0 20 = 100",
            "laid 1 0 = 10", "laid 1 1 = 1", "hand 1 9 = 0", "hand 1 10 = 101", "load 0 0 = 5", "load 0 1 = 0",
            "shut 1 10 11 = 2", "laid 1 0 = 10", "layOut = 2", "laid 1 0 = -1", "load 0 0 = 0", "count 20 = 2",
            "pay 0 = 13");
    }

    /** His rides between the two legs go no more: the second leg is not his next one taken, so the desk has the bag. */
    private static void shutBetweenTwoLegs() {
        Script.run("shut between two legs of one courier",
            "ride 0 5 1 6 = 0", "ride 1 7 0 8 = 1", "ride 0 9 1 10 = 2", "ride 1 11 2 12 = 3", "courier 0 0 = 0",
            "take 0 0 = 0", "take 0 1 = 0", "take 0 2 = 0", "take 0 3 = 0", "bag 0 4 2 3 0 12 = 0",
            "layOut = 0", "laid 0 2 = 2", "laid 0 3 = 5", "hand 0 8 = 101",
            "shut 0 8 9 = 1", "layOut = 0", "laid 0 2 = 2", "laid 0 3 = 5", "leg 0 0 1 = 0", "leg 0 1 1 = 3",
            "seal 0 1 0 = 5", "seal 0 1 1 = 0", "seal 0 2 0 = 6", "seal 0 2 1 = 101", "seal 0 3 0 = 11",
            "seal 0 3 1 = 0",
            "hand 0 5 = 0", "hand 0 6 = 101", "hand 0 10 = 101", "hand 0 11 = 0", "hand 0 12 = 102",
            "load 0 0 = 3", "load 0 1 = 0", "load 0 2 = 0", "load 0 3 = 3",
            "ill 0 7 = 3", "laid 0 3 = 5", "hand 0 11 = 0", "take 0 3 = 0", "load 0 1 = 0", "laid 0 3 = 5",
            // now it is his next one
            "layOut = 0", "laid 0 3 = 3", "hand 0 6 = 0", "hand 0 10 = 0", "load 0 1 = 3");
    }

    private static void rulesBehindTake() {
        Script.run("rest behind take",
            "ride 0 0 1 20 = 0", "ride 1 28 2 30 = 1", "ride 2 33 3 36 = 2", "ride 3 40 4 43 = 3", "courier 0 0 = 0",
            "take 0 0 = 0", "take 0 1 = 0", "awake 0 0 = 20", "awake 0 1 = 2",
            "rules 'wake 8;rest 9' = 2",
            "awake 0 0 = 20", "awake 0 1 = 2", "taken 0 1 = 1", "count 20 = 2",
            // still awake since 28, though eight hours would be no rest now
            "take 0 2 = 0", "awake 0 2 = 8", "take 0 3 = 5", "count 20 = 3",
            "rules 'wake 8;rest 4' = 2", "take 0 3 = 0", "awake 0 3 = 3", "awake 0 2 = 8",
            "rules ' ' = 0", "awake 0 3 = 3",
            "ill 0 33 = 2", "take 0 2 = 0", "take 0 3 = 0", "awake 0 2 = 8", "awake 0 3 = 15",
            "rules 'rest 2' = 1", "awake 0 3 = 15", "ill 0 40 = 1", "take 0 3 = 0", "awake 0 3 = 3");
    }

    private static void wakeBehindTake() {
        Script.run("wake behind take",
            "ride 0 0 1 25 = 0", "ride 1 26 0 30 = 1", "ride 0 30 1 31 = 2", "courier 0 0 = 0", "take 0 0 = 5",
            "taken 0 0 = -1",
            "rules 'wake 25' = 1", "take 0 0 = 0", "take 0 1 = 5",
            "rules 'wake 30' = 1", "take 0 1 = 0", "take 0 2 = 5",
            "rules 'wake 1' = 1", "count 20 = 2", "awake 0 0 = 25", "awake 0 1 = 30", "take 0 2 = 5",
            "rules 'wake 31' = 1", "take 0 2 = 0", "awake 0 2 = 31",
            "rules 'wake 1' = 1", "bag 0 0 1 1 0 0 = 0", "layOut = 0", "laid 0 0 = 25", "hand 0 24 = 0",
            "ill 0 0 = 3", "take 0 0 = 5", "soonest 0 0 1 = 31", "soonest 0 0 0 = 0", "soonest 1 0 0 = -1");
    }

    private static void payRulesBehindTake() {
        Script.run("pay and wait behind take",
            "ride 0 5 1 10 = 0", "ride 1 13 2 20 = 1", "ride 2 20 3 22 = 2", "courier 0 0 = 0",
            "pay 0 = 0", "take 0 0 = 0", "pay 0 = 5", "take 0 1 = 0", "pay 0 = 12", "take 0 2 = 0", "pay 0 = 14",
            "rules 'pay 3;wait 2' = 2", "pay 0 = 48",
            "rules 'wait 99;pay 0' = 2", "pay 0 = 297",
            "ill 0 20 = 1", "pay 0 = 297", "ill 0 13 = 1", "pay 0 = 0",
            "rules '' = 0", "pay 0 = 5", "shut 0 5 5 = 1", "pay 0 = 5", "ill 0 5 = 1", "pay 0 = 0", "pay 1 = -1");
    }

    private static void carryBehindLayOut() {
        Script.run("carry behind layOut",
            "ride 0 5 1 10 = 0", "courier 0 0 = 0", "take 0 0 = 0", "bag 0 0 1 12 1 10 = 0", "bag 0 0 1 9 1 10 = 1",
            "layOut = 1", "laid 0 0 = 10", "laid 1 0 = -1", "load 0 0 = 12",
            "rules 'carry 21' = 1", "laid 1 0 = -1", "load 0 0 = 12", "hand 1 7 = 100",
            "layOut = 0", "laid 1 0 = 10", "load 0 0 = 21", "hand 1 7 = 0",
            "rules 'carry 8' = 1", "laid 0 0 = 10", "laid 1 0 = 10", "load 0 0 = 21", "leg 1 0 0 = 0",
            "layOut = 2", "laid 0 0 = -1", "laid 1 0 = -1", "load 0 0 = 0", "leg 1 0 0 = -1", "laid 1 3 = 1",
            "rules 'carry 9' = 1", "layOut = 1", "laid 0 0 = -1", "laid 1 0 = 10", "load 0 0 = 9",
            "rules ' ' = 0", "count 12 = 20", "layOut = 1", "laid 0 0 = 10", "laid 1 0 = -1");
    }

    private static void illBehindLayOut() {
        Script.run("ill behind layOut",
            "ride 0 5 1 10 = 0", "ride 1 12 2 15 = 1", "ride 0 7 2 18 = 2", "courier 0 0 = 0", "courier 0 0 = 1",
            "take 0 0 = 0", "take 0 1 = 0", "take 1 2 = 0", "bag 0 0 2 5 0 16 = 0",
            "layOut = 0", "laid 0 0 = 15", "laid 0 1 = 0", "laid 0 2 = 2", "laid 0 3 = 3",
            "ill 0 12 = 1",
            "laid 0 0 = 15", "laid 0 1 = 0", "laid 0 2 = 2", "laid 0 3 = 3", "leg 0 0 0 = 0", "leg 0 0 1 = 0",
            "leg 0 1 0 = 0",
            "leg 0 1 1 = 1", "seal 0 0 0 = 0", "seal 0 0 1 = 100", "seal 0 1 0 = 5", "seal 0 1 1 = 0",
            "seal 0 2 0 = 15",
            "seal 0 2 1 = 102", "hand 0 11 = 0", "hand 0 14 = 0", "hand 0 15 = 102",
            "load 0 0 = 5", "load 0 1 = -1", "count 20 = 1", "taken 0 1 = -1", "awake 0 1 = -1", "pay 0 = 5",
            "layOut = 0",
            "laid 0 0 = 18", "laid 0 1 = 2", "laid 0 2 = 1", "laid 0 3 = 3", "leg 0 0 0 = 1", "leg 0 0 1 = 2",
            "leg 0 1 0 = -1",
            "seal 0 1 0 = 7", "seal 0 1 1 = 1", "seal 0 2 0 = 18", "load 0 0 = 0", "load 1 0 = 5",
            "hand 0 6 = 100", "hand 0 7 = 1",
            "ill 1 8 = 0", "load 1 0 = 5", "ill 1 7 = 1", "load 1 0 = -1", "hand 0 7 = 1",
            "layOut = 1", "hand 0 7 = 100", "hand 0 999 = 100", "laid 0 0 = -1", "laid 0 2 = 0", "laid 0 3 = 1",
            "seal 0 0 1 = 100");
    }

    private static void illAndTakenAgain() {
        Script.run("ill, then taken again, behind layOut",
            "ride 0 5 1 10 = 0", "ride 1 12 2 15 = 1", "ride 1 11 2 14 = 2", "courier 0 0 = 0", "take 0 0 = 0",
            "take 0 1 = 0",
            "bag 0 0 2 5 0 16 = 0", "layOut = 0", "load 0 0 = 5", "load 0 1 = 5",
            "ill 0 12 = 1", "load 0 1 = -1", "take 0 1 = 0", "load 0 0 = 5", "load 0 1 = 0", "laid 0 0 = 15",
            "leg 0 1 1 = 1",
            "ill 0 11 = 1", "take 0 2 = 0", "load 0 1 = 0", "taken 0 1 = 2", "leg 0 1 1 = 1", "hand 0 14 = 0",
            "laid 0 0 = 15",
            "layOut = 0", "load 0 1 = 5", "laid 0 0 = 14", "leg 0 1 1 = 2", "hand 0 13 = 0", "hand 0 14 = 102");
    }

    private static void takeBehindLayOut() {
        Script.run("take behind layOut",
            "ride 0 5 1 10 = 0", "ride 1 10 2 20 = 1", "courier 0 5 = 0", "courier 1 0 = 1", "bag 0 2 2 20 3 30 = 0",
            "layOut = 1", "hand 0 6 = 100",
            "take 0 0 = 0", "load 0 0 = 0", "laid 0 0 = -1", "leg 0 0 0 = -1", "hand 0 6 = 100",
            // a part of a way is none: it stays where it is
            "layOut = 1", "load 0 0 = 0", "hand 0 6 = 100", "laid 0 3 = 1",
            "take 1 1 = 0", "laid 0 3 = 1", "load 1 0 = 0",
            "layOut = 0", "laid 0 0 = 20", "laid 0 1 = 0", "laid 0 2 = 2", "laid 0 3 = 5", "leg 0 0 0 = 0",
            "leg 0 1 0 = 1",
            "hand 0 9 = 0", "hand 0 10 = 1", "hand 0 20 = 102",
            "take 0 1 = 0", "load 0 1 = 0", "laid 0 3 = 5", "leg 0 1 0 = 1", "load 1 0 = 20",
            "layOut = 0", "laid 0 3 = 3", "leg 0 1 0 = 0", "hand 0 10 = 0", "load 0 1 = 20", "load 1 0 = 0",
            "bag 1 0 2 1 9 0 = 1", "laid 1 0 = -1",
            "layOut = 0", "laid 1 0 = 20", "laid 1 1 = 20", "leg 1 0 0 = 0", "leg 0 1 0 = 1", "laid 0 3 = 5",
            "load 0 0 = 20",
            "load 0 1 = 1", "load 1 0 = 20");
    }

    private static void bagBehindLayOut() {
        Script.run("bag behind layOut",
            "ride 0 5 1 10 = 0", "courier 0 0 = 0", "take 0 0 = 0", "bag 0 3 1 15 2 10 = 0", "hand 0 3 = 100",
            "layOut = 0",
            "bag 0 4 1 6 8 8 = 1",
            "laid 1 0 = -1", "laid 1 1 = -1", "laid 1 2 = 0", "laid 1 3 = 0", "laid 1 4 = -1", "leg 1 0 0 = -1",
            "leg 1 0 1 = -1",
            "seal 1 0 0 = -1", "seal 1 0 1 = -1", "hand 1 4 = 100", "hand 1 5 = 100", "hand 1 10 = 100",
            "hand 1 999 = 100",
            "laid 0 0 = 10", "hand 0 5 = 0", "load 0 0 = 15", "count 2 = 2", "laid 2 0 = -1", "laid 2 2 = -1",
            "hand 2 5 = -1",
            "layOut = 1",
            "laid 1 0 = 10", "laid 1 1 = 2", "laid 1 2 = 1", "laid 1 3 = 3", "hand 1 4 = 100", "hand 1 5 = 0",
            "hand 1 10 = 101",
            "laid 0 0 = -1", "laid 0 3 = 1", "hand 0 5 = 100", "load 0 0 = 6");
    }

    private static void bagsOfRanksOneBehindTheOther() {
        Script.run("bags of ranks, laid out again and again",
            "ride 0 5 1 10 = 0", "ride 0 6 1 12 = 1", "courier 0 0 = 0", "courier 0 0 = 1", "take 0 1 = 0",
            "take 1 0 = 0",
            "bag 0 0 1 15 2 10 = 0", "layOut = 0", "leg 0 0 0 = 1", "laid 0 0 = 10",
            "bag 0 0 1 10 2 10 = 1", "layOut = 0", "laid 0 0 = 10", "laid 1 0 = 12", "leg 1 0 0 = 0",
            "bag 0 0 1 6 3 10 = 2", "layOut = 0", "laid 2 0 = 10", "laid 0 0 = 12", "laid 1 0 = 10", "leg 0 0 0 = 0",
            "load 1 0 = 16", "load 0 0 = 15");
    }

    private static void rulesRefused() {
        Script.run("rules that are refused",
            "rules 'wake 30;rest 6;carry 9;pay 2;wait 1' = 5", "ride 0 0 1 20 = 0", "ride 1 26 2 56 = 1",
            "courier 0 0 = 0",
            "take 0 0 = 0", "bag 0 0 1 9 0 0 = 0", "bag 0 0 1 1 0 0 = 1",
            "rules 'wake 1;rest 0' = -100",
            "count 4 = 0", "count 10 = 30", "count 11 = 6", "count 12 = 9", "count 13 = 2", "count 14 = 1",
            "take 0 1 = 0", "awake 0 1 = 30", "pay 0 = 106",
            "rules 'carry 10;carry 11' = -77", "layOut = 1", "load 0 0 = 9",
            "rules 'wake' = -35", "soonest 0 0 2 = 56",
            "rules 'carry 10;' = -75", "count 12 = 9", "layOut = 1", "pay 0 = 106",
            "rules 'carry 10' = 1", "count 10 = 24", "count 11 = 8", "count 12 = 10", "count 13 = 1", "count 14 = 0",
            "layOut = 0", "load 0 0 = 10", "soonest 0 0 2 = -1", "pay 0 = 50", "awake 0 1 = 30", "count 20 = 2");
    }

    private static void rulesRefusedBehindOthers() {
        Script.run("what a refused text told leaves no trace in the next one",
            "rules 'pay 9;wait 8;' = -107", "count 13 = 1", "count 14 = 0",
            "rules 'wait 7' = 1", "count 13 = 1", "count 14 = 7",
            "rules 'pay 5;wait 6;pay' = -109", "count 13 = 1", "count 14 = 7",
            "rules 'pay 5' = 1", "count 13 = 5", "count 14 = 0",
            "rules 'x' = -3", "count 13 = 5", "rules '' = 0", "count 13 = 1", "rules = 0", "count 4 = 0");
    }

    private static void tapeFull() {
        Script.run("a tape that is full",
            "feed 'wake 7;             ' = 20", "feed '" + BLANKS + "' = 40", "feed '" + BLANKS + "' = 60",
            "feed '" + BLANKS + "' = 80",
            "feed '              rest 9' = 100",
            "feed 'pay 50' = -1", "count 4 = 100", "feed '" + BLANKS + "' = -1", "end 101 = -1", "end -1 = -1",
            "end 100 = 100",
            "count 10 = 24", "count 11 = 8",
            "rules = 2", "count 10 = 7", "count 11 = 9", "count 13 = 1", "count 4 = 0", "end 1 = -1", "end 0 = 0",
            "ride 0 0 1 8 = 0", "courier 0 0 = 0", "take 0 0 = 5",
            "feed 'pay 50' = 20", "rules = -51", "count 13 = 1", "count 10 = 7", "count 4 = 0", "take 0 0 = 5",
            "feed '" + BLANKS + "' = 20", "rules = 0", "take 0 0 = 0");
    }

    private static void tapeFullRefused() {
        Script.run("a full tape that is refused is empty then",
            "feed 'wake 5;rest 6;carry ' = 20", "feed '7;pay 8;wait 9      ' = 40", "feed '" + BLANKS + "' = 60",
            "feed '" + BLANKS + "' = 80",
            "feed '                   ;' = 100", "feed ' ' = -1",
            "rules = -803", "count 4 = 0", "count 10 = 24", "count 11 = 8", "count 12 = 20", "count 13 = 1",
            "count 14 = 0",
            "feed 'wake 5;rest 6;carry ' = 20", "feed '7;pay 8;wait 9      ' = 40", "feed '" + BLANKS + "' = 60",
            "feed '" + BLANKS + "' = 80",
            "feed '" + BLANKS + "' = 100", "feed ';' = -1",
            "rules = 5", "count 10 = 5", "count 11 = 6", "count 12 = 7", "count 13 = 8", "count 14 = 9",
            "count 4 = 0",
            "rules = 0", "count 10 = 24");
    }

    private static void tapeCutAndFedOn() {
        Script.run("a tape that is cut and fed on",
            "feed 'pay 50;;;;' = 20", "end 21 = -1", "end 6 = 6", "end 7 = -1", "count 4 = 6",
            "feed ';wait 3' = 26", "end 13 = 13",
            "rules = 2", "count 13 = 50", "count 14 = 3",
            "feed '" + BLANKS + "' = 20", "feed '" + BLANKS + "' = 40", "feed '" + BLANKS + "' = 60",
            "feed '" + BLANKS + "' = 80", "feed '" + BLANKS + "' = 100", "end 81 = 81", "feed 'wake 5' = -1",
            "count 4 = 81",
            "end 80 = 80", "feed 'wake 5' = 100", "end 86 = 86", "feed ' ' = -1", "rules = 1", "count 10 = 5",
            "feed 'wake 5;;;;;;;;;;;;;;' = 20", "end 6 = 6", "feed '" + BLANKS + "' = 26", "rules = 1",
            "count 10 = 5", "count 13 = 1",
            "feed 'wake 9' = 20", "end 0 = 0", "rules = 0", "count 10 = 24",
            "feed 'wake 1' = 20", "end 6 = 6", "feed '23' = 26", "end 7 = 7", "rules = 1", "count 10 = 12",
            "feed 'wake 1' = 20", "end 6 = 6", "feed '23' = 26", "end 8 = 8", "rules = -44", "count 10 = 12");
    }

    private static void rideAndCourierBehindLayOut() {
        Script.run("ride and courier behind layOut",
            "ride 0 5 1 10 = 0", "courier 0 0 = 0", "take 0 0 = 0", "bag 0 0 1 5 0 9 = 0", "layOut = 0",
            "ride 0 1 1 2 = 1", "soonest 0 0 1 = 2", "laid 0 0 = 10", "layOut = 0", "laid 0 0 = 10",
            "courier 0 0 = 1", "count 21 = 0", "load 1 0 = -1", "layOut = 0", "laid 0 0 = 10", "pay 1 = 0",
            "take 1 1 = 0", "laid 0 0 = 10", "load 1 0 = 0", "layOut = 0", "laid 0 0 = 2", "laid 0 1 = 0",
            "leg 0 0 0 = 1", "leg 0 0 1 = 1",
            "load 0 0 = 0", "load 1 0 = 5", "hand 0 1 = 1", "hand 0 2 = 101", "count 0 = 2", "count 1 = 2");
    }

    private static void soonestBehindShutAndRules() {
        Script.run("soonest behind shut and rules",
            "ride 0 1 1 5 = 0", "ride 1 6 2 9 = 1", "ride 0 2 2 20 = 2", "everywhere 0 0 7 = 9",
            "shut 1 6 6 = 1", "soonest 0 0 2 = 20", "everywhere 0 0 7 = 20", "everywhere 0 0 3 = 5",
            "shut 2 20 20 = 2", "soonest 0 0 2 = -1", "everywhere 0 0 7 = -1", "everywhere 0 0 3 = 5",
            "ride 1 7 2 30 = 3", "soonest 0 0 2 = -1", "soonest 1 0 2 = 30",
            "rules 'wake 28' = 1", "soonest 0 0 2 = -1", "rules 'wake 29' = 1", "soonest 0 0 2 = 30",
            "everywhere 0 0 7 = 30",
            "rules 'rest 2' = 1", "soonest 0 0 2 = 30", "rules 'rest 3' = 1", "soonest 0 0 2 = -1",
            "ride 0 3 1 6 = 4", "soonest 0 0 1 = 5", "soonest 0 0 2 = -1", "shut 1 5 5 = 3", "soonest 0 0 1 = -1",
            "everywhere 0 0 1 = 0",
            "ride 0 6 1 7 = 5", "soonest 0 0 1 = 7", "soonest 0 0 2 = 30", "everywhere 0 6 6 = 30",
            "everywhere 0 7 6 = -1",
            "count 3 = 3", "count 0 = 6");
    }

    private static void soonestNotByTaken() {
        Script.run("soonest is anybody's, whatever couriers have taken",
            "ride 0 5 1 10 = 0", "ride 1 11 2 15 = 1", "soonest 0 0 2 = 15", "courier 0 6 = 0", "take 0 0 = 3",
            "soonest 0 0 2 = 15",
            "courier 0 5 = 1", "take 1 0 = 0", "take 1 1 = 0", "soonest 0 0 2 = 15", "everywhere 0 0 7 = 15",
            "ill 1 0 = 2", "soonest 0 0 2 = 15", "soonest 0 6 2 = -1", "soonest 1 11 2 = 15", "soonest 1 12 2 = -1");
    }

    private static void twelveTakenAndIll() {
        Script.run("twelve taken, then ill",
            "ride 0 1 1 2 = 0", "ride 1 3 0 4 = 1", "ride 0 5 1 6 = 2", "ride 1 7 0 8 = 3", "ride 0 9 1 10 = 4",
            "ride 1 11 0 12 = 5",
            "ride 0 13 1 14 = 6", "ride 1 15 0 16 = 7", "ride 0 17 1 18 = 8", "ride 1 19 0 20 = 9",
            "ride 0 21 1 22 = 10",
            "ride 1 23 0 24 = 11", "ride 0 25 1 26 = 12", "courier 0 0 = 0",
            "take 0 0 = 0", "take 0 1 = 0", "take 0 2 = 0", "take 0 3 = 0", "take 0 4 = 0", "take 0 5 = 0",
            "take 0 6 = 0", "take 0 7 = 0",
            "take 0 8 = 0", "take 0 9 = 0", "take 0 10 = 0", "take 0 11 = 0", "count 20 = 12", "awake 0 11 = 23",
            "pay 0 = 12",
            "take 0 12 = 1", "bag 0 21 1 3 0 0 = 0", "bag 0 25 1 3 0 0 = 1", "layOut = 1", "load 0 10 = 3",
            "load 0 11 = 0", "load 0 12 = -1",
            "ill 0 23 = 1", "take 0 12 = 2", "ill 0 21 = 1", "take 0 12 = 5", "rules 'rest 5' = 1",
            "take 0 12 = 0", "awake 0 10 = 1",
            "load 0 10 = 0", "laid 0 0 = 22", "layOut = 0", "laid 0 0 = 26", "laid 1 0 = 26", "load 0 10 = 6",
            "count 20 = 11", "pay 0 = 11");
    }

    /** Most promises in one run: two ways over two couriers, one of whom falls ill, by rules that change between. */
    private static void wholeDay() {
        Script.run("a day with all of it",
            "rules 'carry 10;pay 2;wait 1' = 3",
            "ride 0 8 1 12 = 0", "ride 1 14 2 18 = 1", "ride 1 13 2 19 = 2", "ride 2 20 3 26 = 3",
            "ride 2 30 3 34 = 4",
            "courier 0 6 = 0", "courier 1 10 = 1",
            "take 0 0 = 0", "take 0 1 = 0", "take 0 3 = 0", "take 1 2 = 0", "take 1 3 = 0",
            "awake 0 2 = 18", "awake 1 1 = 13", "pay 0 = 32", "pay 1 = 25",
            "bag 0 7 3 6 5 25 = 0", "bag 0 7 2 6 6 18 = 1", "bag 1 0 3 4 1 30 = 2", "bag 1 0 2 7 0 30 = 3",
            "layOut = 1",
            // bag 1, of the highest rank, fills the first courier up to town 2; bag 0 has no room with him; bag 2 goes
            // with him too, as he comes first in the order of legs; bag 3 has no room with him, but with the second one
            "laid 1 0 = 18", "leg 1 0 0 = 0", "leg 1 1 0 = 0", "laid 1 1 = 0", "laid 1 2 = 2", "laid 1 3 = 3",
            "laid 0 0 = -1", "laid 0 1 = -1", "hand 0 25 = 100",
            "laid 2 0 = 26", "leg 2 0 0 = 0", "leg 2 1 0 = 0", "laid 2 3 = 3", "seal 2 1 0 = 14", "hand 2 19 = 0",
            "laid 3 0 = 19", "leg 3 0 0 = 1", "load 1 0 = 7", "load 0 0 = 6", "load 0 1 = 10", "load 0 2 = 4",
            "load 1 1 = 0",
            "laid 3 3 = 3",
            "ill 0 14 = 2", "rules 'carry 20;' = -75", "count 12 = 10", "laid 1 0 = 18", "load 0 1 = -1",
            "load 0 0 = 6",
            "layOut = 2", "laid 1 0 = 19", "laid 1 1 = 1", "laid 1 3 = 5", "hand 1 11 = 0", "hand 1 12 = 101",
            "hand 1 13 = 1",
            "hand 1 19 = 102", "laid 2 0 = 26", "laid 2 3 = 3", "hand 2 19 = 1", "laid 3 0 = -1", "hand 3 0 = 101",
            "rules 'carry 17' = 1", "layOut = 1", "load 0 0 = 12", "load 1 0 = 16", "load 1 1 = 10",
            "laid 0 0 = 26", "laid 0 1 = 1",
            "pay 0 = 4", "pay 1 = 12",
            "shut 2 19 20 = 1", "take 0 3 = 2", "take 0 1 = 0", "awake 0 1 = 10", "take 0 3 = 4", "take 0 4 = 0",
            "awake 0 2 = 4",
            "laid 0 0 = 26", "load 0 2 = 0", "load 1 1 = 10",
            "layOut = 1", "laid 1 0 = 18", "laid 0 0 = 34", "laid 0 1 = 9", "laid 0 2 = 3", "laid 0 3 = 3",
            "leg 0 2 1 = 4",
            "hand 0 25 = 0", "hand 0 34 = 103", "laid 2 0 = 34", "laid 2 1 = 4", "laid 3 0 = -1", "load 0 0 = 12",
            "load 0 1 = 16",
            "load 0 2 = 10", "load 1 0 = 0", "load 1 1 = 0", "pay 0 = 12", "soonest 0 0 3 = 34",
            "everywhere 0 0 15 = 34");
    }
}
