import java.util.function.ToIntFunction;

/** A test for each sentence on texts, and on the headings that bear them, that names a boundary case. */
public final class TextBoundaryTests extends Checks {
    private static final String LETTERS_AND_DIGITS = "abcdefghijklmnopqrstuvwxyzABCDEFGHIJKLMNOPQRSTUVWXYZ0123456789";
    private static final String TEXT_OF_20 = "abcdefghijklmnopqrST";

    private record TextCall(String name, ToIntFunction<AuthorityRows> ask) {
    }

    private static final TextCall[] TEXT_CALLS = {
        new TextCall("heading(0)", x -> x.heading(0)),
        new TextCall("rename(1)", x -> x.rename(1)),
        new TextCall("find()", AuthorityRows::find),
        new TextCall("split(1, 0)", x -> x.split(1, 0)),
    };

    public static void main(String[] args) {
        newObjectHasNoHeadings();
        newObjectHasNoRecords();
        newObjectHasCollectedNothing();
        signIsTheLowestEightBits();
        signsBeyond40AreLost();
        textWaitsForTheCallThatWantsOne();
        textIsGoneAfterTheCall();
        textThatIsEmptyIsRefused();
        textOf1To20IsTaken();
        textLongerThan20IsRefused();
        textWithOtherSignsIsRefused();
        textsAreTheSameButForCapitals();
        textRefusedIsLookedAtFirst();
        headingsAre1To60();
        headingNumbersGoOnAfterRefusals();
        headingClash();
        headingOfNoSuchKind();
        headingWhenThereAre60();
        renameOfItsOwnText();
        renameCountsRecords();
        renameClash();
        renameOfNoSuchHeading();
        findTheFirstLive();
        findNone();
        letterBounds();
        letterOfNoSuchHeading();
        letterAfterRename();
        finish();
    }

    /** Headings one, two of kind 0, three of kind 1, gone (DELETED); links, a record and a ring. */
    private static AuthorityRows busy() {
        AuthorityRows x = new AuthorityRows();
        heading(x, "One", 0);
        heading(x, "two", 0);
        heading(x, "three", 1);
        heading(x, "gone", 0);
        x.delete(4);
        link(x, LATER, 1, 2, 5);
        link(x, BROADER, 1, 3, 0);
        link(x, SEE, 3, 2, 0);
        x.record(1, 3);
        due("the ring", x.link(BROADER, 3, 1, 0), 0);
        return x;
    }

    private static void newObjectHasNoHeadings() {
        says("1: No headings");
        AuthorityRows x = new AuthorityRows();
        for (int h : new int[] {0, 1, 2, 59, 60, 61}) {
            due("form(" + h + ", 0)", x.form(h, 0), 0);
            due("shown(" + h + ", 0)", x.shown(h, 0), 0);
            due("record(" + h + ", 0)", x.record(h, 0), 0);
            due("delete(" + h + ")", x.delete(h), 0);
            due("see(" + h + ", 0)", x.see(h, 0), 0);
            due("broader(" + h + ", 0)", x.broader(h, 0), 0);
            due("letter(" + h + ", 0)", x.letter(h, 0), -1);
            due("rename(" + h + ")", collect(x, "a").rename(h), -100);
            due("split(" + h + ", 0)", collect(x, "a").split(h, 0), 0);
            due("link(1, " + h + ", 1, 0)", x.link(ALSO, h, 1, 0), 0);
        }
        due("find()", collect(x, "a").find(), 0);
        due("ring(0)", x.ring(0), 0);
        due("the first heading", heading(x, "a", 0), 1);
        due("the first heading of another object", heading(new AuthorityRows(), "a", 0), 1);
    }

    private static void newObjectHasNoRecords() {
        says("1: no records");
        AuthorityRows x = new AuthorityRows();
        for (int r : new int[] {0, 1, 2, 59, 60, 61}) {
            due("linked(" + r + ")", x.linked(r), 0);
        }
        heading(x, "a", 0);
        due("a heading brings no record", x.linked(1), 0);
        due("rename(1)", collect(x, "b").rename(1), 0);
        due("the first record", x.record(1, 0), 1);
    }

    private static void newObjectHasCollectedNothing() {
        says("1: nothing is collected");
        collect(new AuthorityRows(), "left");
        for (TextCall call : TEXT_CALLS) {
            due(call.name, call.ask.applyAsInt(new AuthorityRows()), -99);
        }
    }

    private static void signIsTheLowestEightBits() {
        says("2: A sign (the lowest eight bits)");
        for (int high : new int[] {0, 256, -256, 512, 65536, LEAST, 0x7FFFFF00, 0xFFFFFF00, 1 << 8, 1 << 30}) {
            AuthorityRows x = new AuthorityRows();
            x.sign(high + 'a');
            x.sign(high + 'Z');
            x.sign(high + '9');
            due("heading of signs with " + high, x.heading(0), 1);
            dueText("signs with " + high, x, 1, "aZ9");
        }
        for (int c : new int[] {'a' + 128, 'Z' + 128, '9' + 128, 'a' - 128, -1, LEAST, MOST}) {
            AuthorityRows x = new AuthorityRows();
            x.sign(c);
            due("the eighth bit counts: heading of sign " + c, x.heading(0), -99);
        }
    }

    private static void signsBeyond40AreLost() {
        says("2: beyond 40 it is lost");
        for (int many : new int[] {21, 39, 40, 41, 42, 59, 60, 61, 79, 80, 81, 127, 128, 129, 255, 256, 257, 400}) {
            AuthorityRows x = new AuthorityRows();
            heading(x, "a", 0);
            collect(x, "a".repeat(many));
            due("find() of " + many + " signs", x.find(), -99);
            due("find() after " + many + " signs were taken", x.find(), -99);
            due("find() of what is collected after " + many, collect(x, "A").find(), 1);
        }
        AuthorityRows x = new AuthorityRows();
        collect(x, "!".repeat(40));
        due("find() of 40 others and a text behind", collect(x, "text").find(), -99);
        due("find() after it", x.find(), -99);
    }

    private static void textWaitsForTheCallThatWantsOne() {
        says("Terms: What is collected is the text for the next call that wants one");
        AuthorityRows x = busy();
        x.sign('t');
        x.link(ALSO, 1, 2, 0);
        x.link(ALSO, 1, 9, 0);
        x.link(BROADER, 3, 1, 0);
        x.see(2, 0);
        x.broader(1, 0);
        x.sign('W');
        x.delete(4);
        x.delete(1);
        x.delete(9);
        x.shown(3, 0);
        x.record(1, 0);
        x.record(9, 0);
        x.linked(1);
        x.form(1, 0);
        x.ring(0);
        x.letter(1, 0);
        x.sign('o');
        due("find() after calls that want none", x.find(), 2);
        collect(x, "new");
        x.delete(3);
        due("heading(2) after a delete", x.heading(2), 5);
        dueText("after a delete", x, 5, "new");
    }

    private static void textIsGoneAfterTheCall() {
        says("Terms: then nothing is collected");
        for (TextCall next : TEXT_CALLS) {
            for (TextCall call : TEXT_CALLS) {
                for (String text : new String[] {"fresh", "two", "a b", "", "x".repeat(21)}) {
                    AuthorityRows x = busy();
                    call.ask.applyAsInt(collect(x, text));
                    due(next.name + " after " + call.name + " of '" + text + "'", next.ask.applyAsInt(x), -99);
                }
            }
            AuthorityRows x = busy();
            collect(x, "fresh").heading(4);
            due(next.name + " after a heading of no kind", next.ask.applyAsInt(x), -99);
            collect(x, "fresh").rename(9);
            due(next.name + " after a rename of none", next.ask.applyAsInt(x), -99);
            collect(x, "fresh").split(4, 0);
            due(next.name + " after a split of a DELETED one", next.ask.applyAsInt(x), -99);
        }
        for (TextCall call : TEXT_CALLS) {
            for (String bad : new String[] {"a b", "-", "x".repeat(21), "x".repeat(50)}) {
                AuthorityRows x = busy();
                due(call.name + " of '" + bad + "'", call.ask.applyAsInt(collect(x, bad)), -99);
                due("find() of a text after it", collect(x, "two").find(), 2);
            }
        }
    }

    private static void textThatIsEmptyIsRefused() {
        says("Terms: A text that is empty is REFUSED: -99; nothing happens");
        for (TextCall call : TEXT_CALLS) {
            dueAndNothingHappens(call.name + " of nothing", busy(), call.ask, -99);
        }
    }

    private static void textOf1To20IsTaken() {
        says("Terms: a TEXT, 1 to 20 letters and digits");
        for (int length : new int[] {1, 2, 19, 20}) {
            String text = TEXT_OF_20.substring(0, length);
            AuthorityRows x = withHeadings(1);
            due("find() of " + length, collect(x, text).find(), 0);
            due("heading(0) of " + length, heading(x, text, 0), 2);
            dueText("heading(0) of " + length, x, 2, text);
            due("find() of " + length + " that is there", collect(x, text).find(), 2);
            due("delete(2)", x.delete(2), 1);
            due("rename(1) of " + length, collect(x, text).rename(1), 0);
            dueText("rename(1) of " + length, x, 1, text);
            due("rename(1) back", collect(x, "other").rename(1), 0);
            due("split(1, 0) of " + length, collect(x, text).split(1, 0), 3);
            dueText("split(1, 0) of " + length, x, 3, text);
        }
    }

    private static void textLongerThan20IsRefused() {
        says("Terms: A text that is longer than 20 is REFUSED: -99; nothing happens");
        for (TextCall call : TEXT_CALLS) {
            for (int length : new int[] {21, 22, 39, 40, 41, 60}) {
                AuthorityRows x = collect(busy(), "z".repeat(length));
                dueAndNothingHappens(call.name + " of " + length, x, call.ask, -99);
            }
        }
        AuthorityRows x = new AuthorityRows();
        heading(x, TEXT_OF_20, 0);
        due("find() of 20 and one more", collect(x, TEXT_OF_20 + "a").find(), -99);
        due("find() of 20", collect(x, TEXT_OF_20).find(), 1);
    }

    private static void textWithOtherSignsIsRefused() {
        says("Terms: A text that has other signs is REFUSED: -99; nothing happens");
        for (int c = 0; c < 256; c++) {
            boolean good = LETTERS_AND_DIGITS.indexOf(c) >= 0;
            due("heading(0) of sign " + c, heading(new AuthorityRows(), "" + (char) c, 0), good ? 1 : -99);
        }
        for (TextCall call : TEXT_CALLS) {
            for (char c : new char[] {0, '\n', ' ', '-', '/', ':', '@', '[', '`', '{', 127, 0xC4, 0xDF, 0xE4, 255}) {
                for (String text : new String[] {"" + c, c + "new", "n" + c + "w", "new" + c}) {
                    AuthorityRows x = collect(busy(), text);
                    dueAndNothingHappens(call.name + " with sign " + (int) c, x, call.ask, -99);
                }
            }
        }
        due("a sign at the 20th place", heading(new AuthorityRows(), "a".repeat(19) + "-", 0), -99);
    }

    private static void textsAreTheSameButForCapitals() {
        says("Terms: texts are the same if they are but for capitals");
        for (char c : LETTERS_AND_DIGITS.toCharArray()) {
            AuthorityRows x = new AuthorityRows();
            heading(x, "x" + c, 0);
            for (char d : LETTERS_AND_DIGITS.toCharArray()) {
                boolean same = Character.toLowerCase(c) == Character.toLowerCase(d);
                due("find() of x" + d + " where x" + c + " is", collect(x, "x" + d).find(), same ? 1 : 0);
            }
        }
        AuthorityRows x = new AuthorityRows();
        heading(x, TEXT_OF_20, 0);
        due("find() of 20 in capitals", collect(x, TEXT_OF_20.toUpperCase()).find(), 1);
        due("find() of 20 but for the last", collect(x, TEXT_OF_20.substring(0, 19) + "U").find(), 0);
        due("find() of 20 but for the first", collect(x, "b" + TEXT_OF_20.substring(1)).find(), 0);
        due("find() of the first 19", collect(x, TEXT_OF_20.substring(0, 19)).find(), 0);
    }

    private static void textRefusedIsLookedAtFirst() {
        says("3, 5, 10: -99 as told (looked at first)");
        for (String bad : new String[] {"", "a b", "a".repeat(21)}) {
            AuthorityRows x = busy();
            for (int kind : new int[] {-1, 4, LEAST, MOST}) {
                due("heading(" + kind + ") of '" + bad + "'", heading(x, bad, kind), -99);
            }
            for (int h : new int[] {0, 4, 5, 61, -1}) {
                due("rename(" + h + ") of '" + bad + "'", collect(x, bad).rename(h), -99);
                due("split(" + h + ", 0) of '" + bad + "'", collect(x, bad).split(h, 0), -99);
            }
            AuthorityRows full = withHeadings(60);
            due("heading(0) of '" + bad + "' when full", heading(full, bad, 0), -99);
            due("split(1, 0) of '" + bad + "' when full", collect(full, bad).split(1, 0), -99);
        }
    }

    private static void headingsAre1To60() {
        says("Terms: HEADINGS are 1 .. 60, as they come");
        AuthorityRows x = new AuthorityRows();
        for (int h = 1; h <= 60; h++) {
            due("form of the next one", x.form(h, 0), 0);
            due("heading " + h, heading(x, "n" + h, h % 4), h);
        }
        due("form(60, 0)", x.form(60, 0), 60);
        due("form(61, 0)", x.form(61, 0), 0);
        due("form(0, 0)", x.form(0, 0), 0);
        due("letter(60, 2)", x.letter(60, 2), '0');
        due("find() of the last", collect(x, "N60").find(), 60);
        due("rename(60)", collect(x, "last").rename(60), 0);
        due("delete(60)", x.delete(60), 1);
    }

    private static void headingNumbersGoOnAfterRefusals() {
        says("3: a clash, 0 and -99 make no heading");
        AuthorityRows x = withHeadings(1);
        due("a clash", heading(x, "H1", 0), -1);
        due("no such kind", heading(x, "new", 4), 0);
        due("a refused text", heading(x, "n.", 0), -99);
        due("a rename", collect(x, "h01").rename(1), 0);
        due("a split of none", collect(x, "new").split(7, 0), 0);
        due("the next", heading(x, "new", 0), 2);
        due("delete(2)", x.delete(2), 1);
        due("the number of a DELETED one is not given again", heading(x, "new", 0), 3);
    }

    private static void headingClash() {
        says("3: Less the number of the first LIVE heading of this kind that has the same text already, and nothing happens");
        AuthorityRows x = busy();
        dueAndNothingHappens("heading(0) of ONE", collect(x, "ONE"), y -> y.heading(0), -1);
        dueAndNothingHappens("heading(0) of Two", collect(x, "Two"), y -> y.heading(0), -2);
        due("heading(1) of Three", heading(x, "Three", 1), -3);
        due("of another kind it is none", heading(x, "Three", 0), 5);
        due("of a DELETED one it is none", heading(x, "Gone", 0), 6);
        due("the DELETED one is passed by", heading(x, "gone", 0), -6);
        AuthorityRows last = withHeadings(59);
        due("a clash with the 59th", heading(last, "H59", 0), -59);
        due("the 60th of another kind", heading(last, "H59", 3), 60);
    }

    private static void headingOfNoSuchKind() {
        says("3: 0 if there is no such kind");
        for (int kind : new int[] {-1, 4, 5, -4, 256, 260, LEAST, LEAST + 1, MOST}) {
            dueAndNothingHappens("heading(" + kind + ")", collect(busy(), "new"), y -> y.heading(kind), 0);
            due("a text that is there, kind " + kind, heading(busy(), "one", kind), 0);
        }
        AuthorityRows x = new AuthorityRows();
        for (int kind = 0; kind <= 3; kind++) {
            due("heading(" + kind + ")", heading(x, "same", kind), kind + 1);
        }
        for (int kind = 0; kind <= 3; kind++) {
            due("heading(" + kind + ") again", heading(x, "same", kind), -kind - 1);
        }
    }

    private static void headingWhenThereAre60() {
        says("3: 0 if there are 60");
        AuthorityRows x = withHeadings(59);
        due("the 60th", heading(x, "last", 3), 60);
        for (int kind = 0; kind <= 3; kind++) {
            due("the 61st, of kind " + kind, heading(x, "more", kind), 0);
        }
        due("find() of what was refused", collect(x, "more").find(), 0);
        due("form(61, 0)", x.form(61, 0), 0);
        due("letter(61, 0)", x.letter(61, 0), -1);
        dueText("the 60th stays", x, 60, "last");
        due("delete(1)", x.delete(1), 1);
        due("the 61st, with one DELETED", heading(x, "more", 0), 0);
        due("the text of the DELETED one", heading(x, "h1", 0), 0);
    }

    private static void renameOfItsOwnText() {
        says("5: another LIVE heading: its own text is no clash");
        AuthorityRows x = busy();
        due("rename(1) of its own text", collect(x, "One").rename(1), 1);
        due("rename(1) but for capitals", collect(x, "oNE").rename(1), 1);
        dueText("as told", x, 1, "oNE");
    }

    private static void renameCountsRecords() {
        says("5: how many records are LINKED to it");
        AuthorityRows x = withHeadings(3);
        link(x, SEE, 1, 2, 0);
        due("rename of none", collect(x, "a").rename(2), 0);
        for (int r = 1; r <= 60; r++) {
            due("record " + r, x.record(1, r), r);
        }
        due("rename of all 60", collect(x, "b").rename(2), 60);
        due("rename of the one that SEEs", collect(x, "c").rename(1), 0);
        due("split", collect(x, "d").split(2, 60), 4);
        due("rename of 59", collect(x, "e").rename(2), 59);
        due("rename of one", collect(x, "f").rename(4), 1);
    }

    private static void renameClash() {
        says("5: Less the number of another LIVE heading of the kind that has the same text, and nothing happens");
        dueAndNothingHappens("rename(1) of TWO", collect(busy(), "TWO"), y -> y.rename(1), -2);
        dueAndNothingHappens("rename(2) of one", collect(busy(), "one"), y -> y.rename(2), -1);
        AuthorityRows x = busy();
        due("the text of another kind", collect(x, "three").rename(1), 1);
        due("the text of a DELETED one", collect(x, "gone").rename(2), 0);
        due("of the same kind as it was", heading(x, "Three", 0), -1);
        due("the first of its kind", heading(x, "Three", 1), -3);
    }

    private static void renameOfNoSuchHeading() {
        says("5: -100 if there is no such heading, or it is DELETED");
        for (int h : WRONG_NUMBERS) {
            due("rename(" + h + ")", collect(busy(), "new").rename(h), -100);
        }
        dueAndNothingHappens("rename(5), the next", collect(busy(), "new"), y -> y.rename(5), -100);
        dueAndNothingHappens("rename(4), DELETED", collect(busy(), "new"), y -> y.rename(4), -100);
        dueAndNothingHappens("rename(4) of its own text", collect(busy(), "gone"), y -> y.rename(4), -100);
        dueAndNothingHappens("rename(4) of another's text", collect(busy(), "one"), y -> y.rename(4), -100);
        dueAndNothingHappens("rename(0)", collect(busy(), "new"), y -> y.rename(0), -100);
        AuthorityRows x = withHeadings(60);
        due("rename(61)", collect(x, "new").rename(61), -100);
        due("rename(60)", collect(x, "new").rename(60), 0);
    }

    private static void findTheFirstLive() {
        says("6: The first LIVE heading, of any kind, that has the text");
        AuthorityRows x = new AuthorityRows();
        for (int kind = 3; kind >= 0; kind--) {
            heading(x, "same", kind);
        }
        for (int h = 1; h <= 4; h++) {
            due("find() with " + (h - 1) + " DELETED", collect(x, "SAME").find(), h);
            due("delete(" + h + ")", x.delete(h), 1);
        }
        due("find() with all DELETED", collect(x, "SAME").find(), 0);
        due("find() of the text of a rename", collect(withHeadings(60), "h60").find(), 60);
    }

    private static void findNone() {
        says("6: 0 if there is none");
        AuthorityRows x = busy();
        dueAndNothingHappens("find() of none", collect(x, "none"), AuthorityRows::find, 0);
        due("find() of a beginning", collect(x, "thre").find(), 0);
        due("find() of more", collect(x, "threee").find(), 0);
        due("find() of a DELETED one", collect(x, "gone").find(), 0);
        due("rename(1)", collect(x, "uno").rename(1), 1);
        due("find() of a text that was", collect(x, "one").find(), 0);
    }

    private static void letterBounds() {
        says("16: Letter i, from 0 on, as it was told; NONE if there is none such");
        AuthorityRows x = new AuthorityRows();
        heading(x, TEXT_OF_20, 0);
        heading(x, "Z", 0);
        heading(x, "b".repeat(20), 0);
        dueText("20 letters", x, 1, TEXT_OF_20);
        due("letter(1, 19)", x.letter(1, 19), 'T');
        due("letter(2, 0)", x.letter(2, 0), 'Z');
        for (int h = 1; h <= 3; h++) {
            for (int i : new int[] {20, 21, 39, 40, -1, -2, -20, LEAST, LEAST + 20, MOST, 1 << 28}) {
                due("letter(" + h + ", " + i + ")", x.letter(h, i), -1);
            }
        }
        due("letter(2, 1)", x.letter(2, 1), -1);
        due("NONE", AuthorityRows.NONE, -1);
    }

    private static void letterOfNoSuchHeading() {
        says("16: NONE if there is none such");
        AuthorityRows x = busy();
        for (int h : WRONG_NUMBERS) {
            due("letter(" + h + ", 0)", x.letter(h, 0), -1);
        }
        due("letter(5, 0), the next", x.letter(5, 0), -1);
        due("letter(4, 3), of a DELETED one", x.letter(4, 3), 'e');
        due("letter(4, 4), of a DELETED one", x.letter(4, 4), -1);
    }

    private static void letterAfterRename() {
        says("16: of a heading's text, as it was told");
        AuthorityRows x = busy();
        collect(x, TEXT_OF_20).rename(2);
        dueText("longer", x, 2, TEXT_OF_20);
        dueText("the one before", x, 1, "One");
        dueText("the one behind", x, 3, "three");
        collect(x, "Q").rename(2);
        dueText("shorter", x, 2, "Q");
    }
}
