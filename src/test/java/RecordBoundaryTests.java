/** A test for each sentence on records, days and later forms that names a boundary case. */
public final class RecordBoundaryTests extends Checks {
    private static final long FIRST_DAY = Long.MIN_VALUE;
    private static final long LAST_DAY = Long.MAX_VALUE;
    private static final String ONE_SIGN = "abcdefghijklmnopqrstuvwxyz0123456789";

    public static void main(String[] args) {
        splitOfRecordsNotBelowTheDay();
        splitOfRecordsOnTheLeastAndLastDays();
        splitOfOneHeadingsRecordsAlone();
        splitIsLaterFromTheDayOn();
        splitIsOfTheSameKind();
        splitClash();
        splitOfNoSuchHeading();
        splitWhenThereAre60();
        shownOfTheUsedForm();
        shownOnADay();
        shownNotThere();
        recordsAre1To60();
        recordOfTheUsedForm();
        recordNotThere();
        recordWhenThereAre60();
        linkedNoSuchRecord();
        linkedFollowsSplitsAlone();
        formNotAboveTheDay();
        formOnTheLeastAndLastDays();
        formOfTheLatestDay();
        formOfTheSameDay();
        formInTurn();
        formOfAll60();
        formNotThere();
        the512thCall();
        finish();
    }

    /** Headings 1 to 4, of which 4 is DELETED; records of 1 on days 9, 10 and 11, and one of 2. */
    private static AuthorityRows busy() {
        AuthorityRows x = withHeadings(4);
        due("delete(4)", x.delete(4), 1);
        for (int r = 1; r <= 3; r++) {
            due("record " + r, x.record(1, 8 + r), r);
        }
        due("record 4", x.record(2, 10), 4);
        return x;
    }

    private static void dueLinked(String what, AuthorityRows x, int... want) {
        for (int i = 0; i < want.length; i++) {
            due(what + ", linked(" + (i + 1) + ")", x.linked(i + 1), want[i]);
        }
    }

    private static void splitOfRecordsNotBelowTheDay() {
        says("10: records LINKED to that whose day is not below it are LINKED to the new one");
        int[][] linked = {{5, 5, 5}, {5, 5, 5}, {1, 5, 5}, {1, 1, 5}, {1, 1, 1}};
        for (int i = 0; i < linked.length; i++) {
            AuthorityRows x = busy();
            due("split(1, " + (8 + i) + ")", collect(x, "new").split(1, 8 + i), 5);
            dueLinked("from day " + (8 + i) + " on", x, linked[i]);
        }
    }

    private static void splitOfRecordsOnTheLeastAndLastDays() {
        says("10: not below it, on the least and the last of days");
        long[] days = {FIRST_DAY, FIRST_DAY + 1, -1, 0, 1, LAST_DAY - 1, LAST_DAY};
        for (long from : days) {
            AuthorityRows x = withHeadings(1);
            for (long day : days) {
                x.record(1, day);
            }
            due("split(1, " + from + ")", collect(x, "new").split(1, from), 2);
            for (int i = 0; i < days.length; i++) {
                due("from " + from + " on, the record of " + days[i], x.linked(i + 1), days[i] < from ? 1 : 2);
            }
        }
    }

    private static void splitOfOneHeadingsRecordsAlone() {
        says("10: records LINKED to that, and to no other");
        AuthorityRows x = busy();
        link(x, SEE, 3, 1, 0);
        due("a record by SEE", x.record(3, 10), 5);
        due("split(1, 0)", collect(x, "new").split(1, 0), 5);
        dueLinked("all of 1 alone", x, 5, 5, 5, 2, 5);
        due("split(3, 0), of one that only SEEs", collect(x, "more").split(3, 0), 6);
        dueLinked("none of 3", x, 5, 5, 5, 2, 5);
        due("LATER than the one that SEEs", x.form(3, 0), 6);
        due("and not than the one it SEEs to", x.form(1, 0), 5);
        due("split(5, 11), of the new one", collect(x, "most").split(5, 11), 7);
        dueLinked("of the new one", x, 5, 5, 7, 2, 5);
    }

    private static void splitIsLaterFromTheDayOn() {
        says("10: and LATER than it, from a day on");
        for (long day : new long[] {FIRST_DAY + 1, -1, 0, 10, LAST_DAY}) {
            AuthorityRows x = busy();
            due("split(1, " + day + ")", collect(x, "new").split(1, day), 5);
            due("form the day before " + day, x.form(1, day - 1), 1);
            due("form on " + day, x.form(1, day), 5);
            due("form of the new one", x.form(5, day), 5);
            due("the link is there", x.link(LATER, 1, 5, 0), 0);
            due("back", x.link(LATER, 5, 1, 0), 0);
            dueRing("back", x, 1, 5);
        }
        AuthorityRows x = busy();
        due("split(1, the least)", collect(x, "new").split(1, FIRST_DAY), 5);
        due("form on the least day", x.form(1, FIRST_DAY), 5);
    }

    private static void splitIsOfTheSameKind() {
        says("10: a new heading of the kind of one");
        for (int kind = 0; kind <= 3; kind++) {
            AuthorityRows x = new AuthorityRows();
            heading(x, "old", kind);
            due("split(1, 0)", collect(x, "New").split(1, 0), 2);
            for (int other = 0; other <= 3; other++) {
                due("a clash of kind " + other, heading(x, "new", other) == -2 ? 1 : 0, other == kind ? 1 : 0);
            }
            dueText("as told", x, 2, "New");
        }
    }

    private static void splitClash() {
        says("10: what it answers otherwise is as heading(): a clash");
        dueAndNothingHappens("of its own text", collect(busy(), "H1"), y -> y.split(1, 0), -1);
        dueAndNothingHappens("of another's text", collect(busy(), "H2"), y -> y.split(1, 0), -2);
        AuthorityRows x = busy();
        due("of another kind", heading(x, "other", 1), 5);
        due("the text of another kind is none", collect(x, "other").split(1, 0), 6);
        due("the text of a DELETED one is none", collect(x, "h4").split(1, 0), 7);
    }

    private static void splitOfNoSuchHeading() {
        says("10: 0 also if there is no such heading, or it is DELETED");
        for (int h : WRONG_NUMBERS) {
            due("split(" + h + ", 0)", collect(busy(), "new").split(h, 0), 0);
        }
        dueAndNothingHappens("split(0, 0)", collect(busy(), "new"), y -> y.split(0, 0), 0);
        dueAndNothingHappens("split(5, 0), the next", collect(busy(), "new"), y -> y.split(5, 0), 0);
        dueAndNothingHappens("split(4, 0), DELETED", collect(busy(), "new"), y -> y.split(4, 0), 0);
        dueAndNothingHappens("split(4, 0) of another's text", collect(busy(), "h1"), y -> y.split(4, 0), 0);
        AuthorityRows x = busy();
        due("split(4, 0), DELETED", collect(x, "new").split(4, 0), 0);
        due("no heading was made", collect(x, "new").find(), 0);
        due("no number was used", heading(x, "new", 0), 5);
    }

    private static void splitWhenThereAre60() {
        says("10: as heading(): 0 if there are 60");
        AuthorityRows x = withHeadings(59);
        due("record", x.record(1, 5), 1);
        due("the 60th by a split", collect(x, "last").split(1, 6), 60);
        due("the 61st", collect(x, "more").split(1, 0), 0);
        dueLinked("no record goes", x, 1);
        due("no LATER link is made", x.form(1, 5), 1);
        due("the earlier link stays", x.form(1, 6), 60);
        due("no heading is made", collect(x, "more").find(), 0);
        due("delete(2)", x.delete(2), 1);
        due("with one DELETED", collect(x, "more").split(1, 0), 0);
    }

    private static void shownOfTheUsedForm() {
        says("11: THE FORM, that day, of its USED form; THE USED form: that to which it SEEs, if it SEEs; else itself");
        AuthorityRows x = withHeadings(5);
        due("one with no link", x.shown(1, 0), 1);
        link(x, ALSO, 1, 3, 0);
        link(x, BROADER, 1, 3, 0);
        due("ALSO and BROADER are none", x.shown(1, 0), 1);
        link(x, SEE, 1, 2, 99);
        due("a SEE has no day", x.shown(1, FIRST_DAY), 2);
        due("the used one itself", x.shown(2, 0), 2);
        link(x, LATER, 1, 4, 0);
        due("its own LATER does not count, as it SEEs", x.shown(1, 5), 2);
        due("form() knows no SEE", x.form(1, 5), 4);
        link(x, LATER, 2, 5, 0);
        link(x, SEE, 5, 3, 0);
        due("the SEE of a later form does not count", x.shown(1, 5), 5);
    }

    private static void shownOnADay() {
        says("11: on a day");
        AuthorityRows x = withHeadings(3);
        link(x, SEE, 1, 2, 0);
        link(x, LATER, 2, 3, 10);
        due("the day before", x.shown(1, 9), 2);
        due("the day", x.shown(1, 10), 3);
        due("the least day", x.shown(1, FIRST_DAY), 2);
        due("the last day", x.shown(1, LAST_DAY), 3);
    }

    private static void shownNotThere() {
        says("11: 0 if it is not there, or DELETED");
        AuthorityRows x = busy();
        for (int h : WRONG_NUMBERS) {
            due("shown(" + h + ", 0)", x.shown(h, 0), 0);
        }
        due("shown(5, 0), the next", x.shown(5, 0), 0);
        due("shown(4, 0), DELETED", x.shown(4, 0), 0);
        due("shown(61, 0)", withHeadings(60).shown(61, 0), 0);
        due("shown(60, 0)", withHeadings(60).shown(60, 0), 60);
    }

    private static void recordsAre1To60() {
        says("Terms: RECORDS are 1 .. 60, as they come");
        AuthorityRows x = withHeadings(3);
        for (int r = 1; r <= 60; r++) {
            due("linked of the next one", x.linked(r), 0);
            due("record " + r, x.record(1 + r % 3, r), r);
            due("linked(" + r + ")", x.linked(r), 1 + r % 3);
        }
        due("linked(1)", x.linked(1), 2);
        due("linked(61)", x.linked(61), 0);
    }

    private static void recordOfTheUsedForm() {
        says("12: LINKED to a heading's USED form");
        AuthorityRows x = withHeadings(4);
        link(x, SEE, 1, 2, 0);
        link(x, LATER, 2, 3, 0);
        due("of one that SEEs", x.record(1, 5), 1);
        due("of the used one", x.record(2, 5), 2);
        due("of the later one", x.record(3, 5), 3);
        dueLinked("to the USED form, whatever is LATER", x, 2, 2, 3);
        due("delete(1)", x.delete(1), 1);
        dueLinked("after the form that is not used is DELETED", x, 2, 2, 3);
    }

    private static void recordNotThere() {
        says("12: 0 if the heading is not there, or DELETED");
        AuthorityRows x = busy();
        for (int h : WRONG_NUMBERS) {
            due("record(" + h + ", 0)", x.record(h, 0), 0);
        }
        due("record(5, 0), the next", x.record(5, 0), 0);
        due("record(4, 0), DELETED", x.record(4, 0), 0);
        due("no record was made", x.linked(5), 0);
        due("the next number", x.record(3, 0), 5);
    }

    private static void recordWhenThereAre60() {
        says("12: 0 if there are 60");
        AuthorityRows x = withHeadings(2);
        for (int r = 1; r <= 59; r++) {
            due("record " + r, x.record(1, 5), r);
        }
        due("the 60th", x.record(2, 5), 60);
        due("the 61st", x.record(1, 5), 0);
        due("the 61st of another heading", x.record(2, 5), 0);
        due("linked(60)", x.linked(60), 2);
        due("linked(61)", x.linked(61), 0);
        due("rename(1)", collect(x, "a").rename(1), 59);
        due("rename(2)", collect(x, "b").rename(2), 1);
        due("split(1, 0) of 59", collect(x, "c").split(1, 0), 3);
        due("linked(59)", x.linked(59), 3);
        due("delete(1)", x.delete(1), 1);
        due("the 61st after a delete", x.record(2, 5), 0);
    }

    private static void linkedNoSuchRecord() {
        says("13: 0 if there is no such record");
        AuthorityRows x = busy();
        for (int r : WRONG_NUMBERS) {
            due("linked(" + r + ")", x.linked(r), 0);
        }
        due("linked(5), the next", x.linked(5), 0);
        due("linked(4), the last", x.linked(4), 2);
    }

    private static void linkedFollowsSplitsAlone() {
        says("13: To which heading a record is LINKED");
        AuthorityRows x = busy();
        link(x, SEE, 1, 2, 0);
        link(x, LATER, 1, 3, 0);
        due("rename(1)", collect(x, "new").rename(1), 3);
        dueLinked("neither SEE nor LATER nor a rename moves it", x, 1, 1, 1, 2);
        due("delete(1)", x.delete(1), -3);
        dueLinked("nor a refused delete", x, 1, 1, 1, 2);
        due("split(1, 10)", collect(x, "split").split(1, 10), 5);
        dueLinked("a split does", x, 1, 5, 5, 2);
    }

    private static void formNotAboveTheDay() {
        says("Terms: LATER links whose day is not above that day");
        AuthorityRows x = withHeadings(2);
        link(x, LATER, 1, 2, 10);
        due("form(1, 9)", x.form(1, 9), 1);
        due("form(1, 10)", x.form(1, 10), 2);
        due("form(1, 11)", x.form(1, 11), 2);
        due("form(1, -10)", x.form(1, -10), 1);
        due("form(2, 10), of the later one", x.form(2, 10), 2);
        // The lower halves of these days, as ints, would tell another order.
        due("a day far above", x.form(1, 1L << 32), 2);
        due("a day far below", x.form(1, -(1L << 32) + 11), 1);
    }

    private static void formOnTheLeastAndLastDays() {
        says("Terms: not above that day, on the least and the last of days");
        long[] days = {FIRST_DAY, FIRST_DAY + 1, -1, 0, 1, LAST_DAY - 1, LAST_DAY};
        for (long from : days) {
            AuthorityRows x = withHeadings(2);
            link(x, LATER, 1, 2, from);
            for (long day : days) {
                due("from " + from + " on, form(1, " + day + ")", x.form(1, day), from <= day ? 2 : 1);
            }
        }
    }

    private static void formOfTheLatestDay() {
        says("Terms: the one with the latest day");
        long[] days = {5, FIRST_DAY, LAST_DAY, -5, 0};
        AuthorityRows x = withHeadings(6);
        for (int i = 0; i < days.length; i++) {
            link(x, LATER, 1, i + 2, days[i]);
        }
        due("on the least day", x.form(1, FIRST_DAY), 3);
        due("before -5", x.form(1, -6), 3);
        due("on -5", x.form(1, -5), 5);
        due("on 0", x.form(1, 0), 6);
        due("on 4", x.form(1, 4), 6);
        due("on 5", x.form(1, 5), 2);
        due("before the last day", x.form(1, LAST_DAY - 1), 2);
        due("on the last day", x.form(1, LAST_DAY), 4);
    }

    private static void formOfTheSameDay() {
        says("Terms: of the same day: the one that was made first");
        AuthorityRows x = withHeadings(5);
        link(x, LATER, 1, 4, 7);
        link(x, LATER, 1, 2, 7);
        link(x, LATER, 1, 5, 7);
        link(x, LATER, 1, 3, 6);
        due("neither the least number nor the last made", x.form(1, 7), 4);
        due("delete(4)", x.delete(4), 1);
        due("then the second made", x.form(1, 7), 2);
        due("a split of the same day", collect(x, "new").split(1, 7), 6);
        due("a split of the same day is made later", x.form(1, 8), 2);
        due("delete(2)", x.delete(2), 1);
        due("then the third", x.form(1, 7), 5);
        due("delete(5)", x.delete(5), 1);
        due("then the split", x.form(1, 7), 6);
        due("delete(6)", x.delete(6), 1);
        due("then the day before", x.form(1, 7), 3);
    }

    private static void formInTurn() {
        says("Terms: the form of the heading of the one, on that day, in turn; else itself");
        AuthorityRows x = withHeadings(5);
        link(x, LATER, 1, 2, 10);
        link(x, LATER, 2, 3, 20);
        link(x, LATER, 3, 4, 5);
        link(x, LATER, 1, 5, 1);
        due("before all", x.form(1, 0), 1);
        due("the one of day 1", x.form(1, 9), 5);
        due("the one of day 10, whose next is not yet", x.form(1, 19), 2);
        due("in turn to an earlier day", x.form(1, 20), 4);
        due("from the middle", x.form(3, 5), 4);
    }

    private static void formOfAll60() {
        says("Terms: in turn, through all 60; (Rings of LATER are refused.)");
        AuthorityRows x = withHeadings(60);
        for (int h = 60; h > 1; h--) {
            link(x, LATER, h, h - 1, h);
        }
        due("form(60, 60)", x.form(60, 60), 1);
        due("form(60, 59)", x.form(60, 59), 60);
        due("form(59, 59)", x.form(59, 59), 1);
        due("shown(60, 60)", x.shown(60, 60), 1);
        due("a ring", x.link(LATER, 1, 60, 100), 0);
        due("form(60, 100)", x.form(60, 100), 1);
    }

    private static void formNotThere() {
        says("14: 0 if it is not there, or DELETED");
        AuthorityRows x = busy();
        for (int h : WRONG_NUMBERS) {
            due("form(" + h + ", 0)", x.form(h, 0), 0);
        }
        due("form(5, 0), the next", x.form(5, 0), 0);
        due("form(4, 0), DELETED", x.form(4, 0), 0);
        due("form(61, 0)", withHeadings(60).form(61, 0), 0);
    }

    /** 32 headings by 64 calls, 447 links, and the last call: as many LATER links as calls allow. */
    private static void the512thCall() {
        says("An object is used for at most 512 calls after it has been made");
        AuthorityRows x = new AuthorityRows();
        int calls = 0;
        for (int h = 1; h <= 32; h++) {
            x.sign(ONE_SIGN.charAt(h));
            due("heading " + h, x.heading(0), h);
            calls += 2;
        }
        for (int step = 1; step <= 30; step++) {
            for (int h = 1; h + step <= 31 && calls < 510; h++) {
                link(x, LATER, h, h + step, 0);
                calls++;
            }
        }
        link(x, LATER, 1, 32, 9);
        due("calls before the last", calls + 1, 511);
        due("the last call", x.form(1, 9), 32);
    }
}
