import java.util.List;

/** A test for each sentence of the promises 1 to 6 that names a boundary case. */
public final class RulesBoundaryTests extends Checks {
    public static void main(String[] args) throws Exception {
        runAll(RulesBoundaryTests.class, List.of("Promise 1", "Promise 2", "Promise 3", "Promise 4", "Promise 5",
                "Promise 6"));
    }

    private static final int[] OUTSIDE = {Integer.MIN_VALUE, -1000000, -1, 1000000, Integer.MAX_VALUE};

    // ---- Promise 1

    @Says(part = "Promise 1", quote = "Creates a balancer without tasks.")
    static void aNewObjectHasNoTasks() {
        LineBalancer x = new LineBalancer();
        due(0, x.size());
        thrown(INDEX, () -> x.task(0, 0));
        thrown(INDEX, () -> x.assign(0, -1));
        for (int what = 0; what <= 7; what++) {
            due(0, x.line(what));
        }
        for (int station = 0; station < 8; station++) {
            int s = station;
            due("0 1 0 1 0 60", x.station(s, 0) + " " + x.station(s, 1) + " " + x.station(s, 2) + " "
                    + x.station(s, 3) + " " + x.station(s, 4) + " " + x.station(s, 5));
            thrown(ELEMENT, () -> x.sequence(s, 0));
        }
        thrown(ARITHMETIC, x::efficiency);
        due(0, x.unevenness());
        due(0, x.least());
    }

    @Says(part = "Promise 1", quote = "Creates a balancer")
    static void aNewObjectHasNoPast() {
        LineBalancer x = new LineBalancer();
        thrown(ELEMENT, x::whyNot);
        thrown(STATE, x::undo);
        thrown(STATE, x::restore);
        due(-100, x.read());
        due(1, x.feed('c'));
        // two objects have nothing in common
        LineBalancer y = withTasks(2, 1);
        y.setRule(0, 99);
        y.save();
        due(0, x.size());
        due(60, x.rule(0));
        thrown(STATE, x::restore);
        due(0, new LineBalancer().size());
    }

    // ---- Promise 2

    @Says(part = "Promise 2", quote = "the number, 1 to 3")
    static void theNumberOfModelsIs1To3() {
        LineBalancer x = new LineBalancer();
        for (int count = 1; count <= 3; count++) {
            x.setModels(count);
            due(count, x.rule(4));
        }
    }

    @Says(part = "Promise 2", quote = "Returns the previous number.")
    static void setModelsReturnsThePreviousNumber() {
        LineBalancer x = new LineBalancer();
        due(1, x.setModels(1));
        due(1, x.setModels(3));
        due(3, x.setModels(3));
        due(3, x.setModels(1));
        due(1, x.setModels(2));
    }

    @Says(part = "Promise 2", quote = "Throws IllegalArgumentException if the number is out of range")
    static void noAndFourModelsAreOutOfRange() {
        LineBalancer x = new LineBalancer();
        thrown(ARGUMENT, () -> x.setModels(0));
        thrown(ARGUMENT, () -> x.setModels(4));
        for (int count : OUTSIDE) {
            thrown(ARGUMENT, () -> x.setModels(count));
        }
        due(1, x.rule(4));
        thrown(STATE, x::undo);
    }

    @Says(part = "Promise 2", quote = "Sets the number of models in use.")
    static void aModelThatComesIntoUseAgainHasWhatItHad() {
        LineBalancer x = new LineBalancer();
        x.setModels(3);
        x.setDemand(2, 7);
        x.addTask(0, 0, 5, 0);
        x.setModels(1);
        due(0, x.task(0, 4));
        x.setModels(3);
        due(35, x.task(0, 4));
        due(7, x.rule(8));
    }

    // ---- Promise 3

    @Says(part = "Promise 3", quote = "Sets the demand of a model, in use or not.")
    static void theDemandOfAModelThatIsNotInUseIsSet() {
        LineBalancer x = new LineBalancer();
        x.setDemand(2, 6);
        due(1, x.rule(5));
        due(6, x.rule(8));
        x.setModels(3);
        due(8, x.rule(5));
        x.setDemand(0, 4);
        due(11, x.rule(5));
    }

    @Says(part = "Promise 3", quote = "the model, 0 to 2")
    static void theModels0And2HaveADemand() {
        LineBalancer x = new LineBalancer();
        x.setDemand(0, 2);
        x.setDemand(2, 3);
        due("2 1 3", x.rule(6) + " " + x.rule(7) + " " + x.rule(8));
    }

    @Says(part = "Promise 3", quote = "the demand, 1 to 9")
    static void theDemandIs1To9() {
        LineBalancer x = new LineBalancer();
        for (int demand = 1; demand <= 9; demand++) {
            x.setDemand(1, demand);
            due(demand, x.rule(7));
        }
    }

    @Says(part = "Promise 3", quote = "Returns the previous demand.")
    static void setDemandReturnsThePreviousDemand() {
        LineBalancer x = new LineBalancer();
        for (int model = 0; model < 3; model++) {
            due(1, x.setDemand(model, 9));
            due(9, x.setDemand(model, 9));
            due(9, x.setDemand(model, 1));
        }
    }

    @Says(part = "Promise 3", quote = "Throws IndexOutOfBoundsException if there is no such model")
    static void theModelMinus1AndTheModel3DoNotExist() {
        LineBalancer x = new LineBalancer();
        x.setModels(3);
        thrown(INDEX, () -> x.setDemand(3, 1));
        for (int model : OUTSIDE) {
            thrown(INDEX, () -> x.setDemand(model, 1));
        }
        due(3, x.rule(5));
    }

    @Says(part = "Promise 3", quote = "Throws IllegalArgumentException if the demand is out of range")
    static void theDemands0And10AreOutOfRange() {
        LineBalancer x = new LineBalancer();
        thrown(ARGUMENT, () -> x.setDemand(0, 0));
        thrown(ARGUMENT, () -> x.setDemand(0, 10));
        thrown(ARGUMENT, () -> x.setDemand(2, 0));
        thrown(ARGUMENT, () -> x.setDemand(2, 10));
        for (int demand : OUTSIDE) {
            thrown(ARGUMENT, () -> x.setDemand(1, demand));
        }
        due("1 1 1", x.rule(6) + " " + x.rule(7) + " " + x.rule(8));
    }

    // ---- Promise 4

    private static final int[] LOWEST = {10, 0, 1, 0};
    private static final int[] HIGHEST = {999, 20, 5, 1};
    private static final int[] AT_FIRST = {60, 2, 5, 0};

    @Says(part = "Promise 4", quote = "Sets a rule of the line.")
    static void aRuleIsSetAndNoOther() {
        for (int rule = 0; rule < 4; rule++) {
            LineBalancer x = new LineBalancer();
            x.setRule(rule, HIGHEST[rule] == AT_FIRST[rule] ? LOWEST[rule] : HIGHEST[rule]);
            for (int other = 0; other < 4; other++) {
                due(other == rule, x.rule(other) != AT_FIRST[other]);
            }
        }
    }

    @Says(part = "Promise 4", quote = "0 for the cycle time")
    static void theRule0IsTheCycleTime() {
        LineBalancer x = withTasks(1, 10);
        x.assign(0, 0);
        x.setRule(0, 10);
        due(0, x.station(0, 5));
        x.setRule(0, 999);
        due(989, x.station(0, 5));
    }

    @Says(part = "Promise 4", quote = "1 for the change time")
    static void theRule1IsTheChangeTime() {
        LineBalancer x = put(withTools(1, 2), 0, 0);
        x.setRule(1, 0);
        due(2, x.station(0, 2));
        x.setRule(1, 20);
        due(42, x.station(0, 2));
    }

    @Says(part = "Promise 4", quote = "2 for the tool limit")
    static void theRule2IsTheToolLimit() {
        LineBalancer x = put(withTools(1, 2, 3, 4, 5), 0, 0, 0, 0);
        due(0, x.reason(4, 0));
        x.setRule(2, 4);
        due(5, x.reason(4, 0));
        x.setRule(2, 1);
        due(0, x.reason(4, 1));
    }

    @Says(part = "Promise 4", quote = "3 for how stations have to fit: 0 on average, 1 strictly")
    static void theRule3IsHowStationsHaveToFit() {
        LineBalancer x = new LineBalancer();
        x.setModels(2);
        x.addTask(70, 10, 0, 0);
        x.setRule(3, 1);
        due(6, x.reason(0, 0));
        x.setRule(3, 0);
        due(0, x.reason(0, 0));
    }

    @Says(part = "Promise 4", quote = "Returns the previous value.")
    static void setRuleReturnsThePreviousValue() {
        LineBalancer x = new LineBalancer();
        for (int rule = 0; rule < 4; rule++) {
            due(AT_FIRST[rule], x.setRule(rule, LOWEST[rule]));
            due(LOWEST[rule], x.setRule(rule, LOWEST[rule]));
            due(LOWEST[rule], x.setRule(rule, HIGHEST[rule]));
            due(HIGHEST[rule], x.setRule(rule, LOWEST[rule]));
        }
    }

    @Says(part = "Promise 4", quote = "the new value")
    static void theValuesAtTheBoundsAreTaken() {
        LineBalancer x = new LineBalancer();
        for (int rule = 0; rule < 4; rule++) {
            x.setRule(rule, LOWEST[rule]);
            due(LOWEST[rule], x.rule(rule));
            x.setRule(rule, HIGHEST[rule]);
            due(HIGHEST[rule], x.rule(rule));
        }
    }

    @Says(part = "Promise 4", quote = "if there is no such rule")
    static void theRulesMinus1And4DoNotExist() {
        LineBalancer x = new LineBalancer();
        for (int value : new int[] {0, 1, 10}) {
            thrown(ARGUMENT, () -> x.setRule(4, value));
            for (int rule : OUTSIDE) {
                thrown(ARGUMENT, () -> x.setRule(rule, value));
            }
        }
        due("60 2 5 0", x.rule(0) + " " + x.rule(1) + " " + x.rule(2) + " " + x.rule(3));
    }

    @Says(part = "Promise 4", quote = "or the value is out of range")
    static void theValuesBehindTheBoundsAreOutOfRange() {
        LineBalancer x = new LineBalancer();
        for (int r = 0; r < 4; r++) {
            int rule = r;
            thrown(ARGUMENT, () -> x.setRule(rule, LOWEST[rule] - 1));
            thrown(ARGUMENT, () -> x.setRule(rule, HIGHEST[rule] + 1));
            for (int value : OUTSIDE) {
                thrown(ARGUMENT, () -> x.setRule(rule, value));
            }
            due(AT_FIRST[rule], x.rule(rule));
        }
    }

    // ---- Promise 5

    @Says(part = "Promise 5", quote = "0 to 3 as for setRule")
    static void theFirstFourAreTheRules() {
        LineBalancer x = new LineBalancer();
        x.setRule(0, 11);
        x.setRule(1, 12);
        x.setRule(2, 3);
        x.setRule(3, 1);
        due("11 12 3 1", x.rule(0) + " " + x.rule(1) + " " + x.rule(2) + " " + x.rule(3));
    }

    @Says(part = "Promise 5", quote = "4 for the number of models in use")
    static void what4IsTheNumberOfModels() {
        LineBalancer x = new LineBalancer();
        due(1, x.rule(4));
        x.setModels(3);
        due(3, x.rule(4));
    }

    @Says(part = "Promise 5", quote = "5 for the total demand")
    static void what5GoesFrom1To27() {
        LineBalancer x = new LineBalancer();
        due(1, x.rule(5));
        x.setModels(3);
        due(3, x.rule(5));
        for (int model = 0; model < 3; model++) {
            x.setDemand(model, 9);
        }
        due(27, x.rule(5));
        x.setModels(1);
        due(9, x.rule(5));
    }

    @Says(part = "Promise 5", quote = "6 to 8 for the demands of the models 0 to 2")
    static void what6To8AreTheDemandsAlsoOfModelsThatAreNotInUse() {
        LineBalancer x = new LineBalancer();
        for (int model = 0; model < 3; model++) {
            x.setDemand(model, 7 + model);
        }
        due("7 8 9", x.rule(6) + " " + x.rule(7) + " " + x.rule(8));
    }

    @Says(part = "Promise 5", quote = "Throws IllegalArgumentException if what is out of range")
    static void whatMinus1And9AreOutOfRange() {
        LineBalancer x = new LineBalancer();
        thrown(ARGUMENT, () -> x.rule(9));
        for (int what : OUTSIDE) {
            thrown(ARGUMENT, () -> x.rule(what));
        }
        due(1, x.rule(8));
    }

    @Says(part = "Promise 5", quote = "Returns a rule of the line, or a number of models.")
    static void toAskForAllIsNoChange() {
        LineBalancer x = new LineBalancer();
        int[] first = {60, 2, 5, 0, 1, 1, 1, 1, 1};
        for (int what = 0; what <= 8; what++) {
            due(first[what], x.rule(what));
            due(first[what], x.rule(what));
        }
        thrown(STATE, x::undo);
    }

    // ---- Promise 6

    @Says(part = "Promise 6", quote = "Sets the number of copies of a station.")
    static void theCopiesOfTheFirstAndTheLastStationAreSet() {
        LineBalancer x = new LineBalancer();
        x.setCopies(0, 3);
        x.setCopies(7, 2);
        StringBuilder text = new StringBuilder();
        for (int station = 0; station < 8; station++) {
            text.append(x.station(station, 1));
        }
        due("31111112", text);
        due(180, x.station(0, 5));
        due(120, x.station(7, 5));
    }

    @Says(part = "Promise 6", quote = "the number, 1 to 3")
    static void theNumberOfCopiesIs1To3() {
        LineBalancer x = new LineBalancer();
        for (int copies = 1; copies <= 3; copies++) {
            x.setCopies(5, copies);
            due(copies, x.station(5, 1));
        }
    }

    @Says(part = "Promise 6", quote = "Returns the previous number.")
    static void setCopiesReturnsThePreviousNumber() {
        LineBalancer x = new LineBalancer();
        due(1, x.setCopies(7, 3));
        due(3, x.setCopies(7, 3));
        due(3, x.setCopies(7, 1));
        due(1, x.setCopies(6, 1));
    }

    @Says(part = "Promise 6", quote = "Throws IndexOutOfBoundsException if there is no such station")
    static void theStationsMinus1And8DoNotExist() {
        LineBalancer x = new LineBalancer();
        thrown(INDEX, () -> x.setCopies(8, 1));
        for (int station : OUTSIDE) {
            thrown(INDEX, () -> x.setCopies(station, 1));
        }
    }

    @Says(part = "Promise 6", quote = "Throws IllegalArgumentException if the number is out of range")
    static void noAndFourCopiesAreOutOfRange() {
        LineBalancer x = new LineBalancer();
        for (int s : new int[] {0, 7}) {
            thrown(ARGUMENT, () -> x.setCopies(s, 0));
            thrown(ARGUMENT, () -> x.setCopies(s, 4));
            for (int copies : OUTSIDE) {
                thrown(ARGUMENT, () -> x.setCopies(s, copies));
            }
            due(1, x.station(s, 1));
        }
    }
}
