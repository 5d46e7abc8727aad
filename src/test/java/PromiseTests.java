/** For each promise of the document: ordinary inputs, the edges that it names, and wrong inputs. */
public final class PromiseTests extends Checks {
    public static void main(String[] args) {
        promise1NewObject();
        promise2Sign();
        promise3Heading();
        promise3HeadingFull();
        promise4Link();
        promise4LinkSee();
        promise4LinkRings();
        promise5Rename();
        promise6Find();
        promise7See();
        promise8Broader();
        promise8BroaderLongChain();
        promise9Delete();
        promise9DeleteLinks();
        promise10Split();
        promise10SplitRefused();
        promise11Shown();
        promise12Record();
        promise13Linked();
        promise14Form();
        promise15Ring();
        promise15RingStays();
        promise15RingLong();
        promise16Letter();
        finish();
    }

    private static void promise1NewObject() {
        AuthorityRows x = new AuthorityRows();
        due("1: find() of nothing collected", x.find(), -99);
        due("1: heading(0) of nothing collected", x.heading(0), -99);
        due("1: linked(1)", x.linked(1), 0);
        due("1: form(1, 0)", x.form(1, 0), 0);
        due("1: shown(1, 0)", x.shown(1, 0), 0);
        due("1: record(1, 0)", x.record(1, 0), 0);
        due("1: letter(1, 0)", x.letter(1, 0), -1);
        due("1: ring(0)", x.ring(0), 0);
        due("1: delete(1)", x.delete(1), 0);
        due("1: see(1, 0)", x.see(1, 0), 0);
        due("1: broader(1, 0)", x.broader(1, 0), 0);
        due("1: link(1, 1, 2, 0)", x.link(ALSO, 1, 2, 0), 0);
        AuthorityRows y = withHeadings(2);
        due("1: objects are apart", x.form(1, 0), 0);
        due("1: objects are apart", y.form(2, 0), 2);
    }

    private static void promise2Sign() {
        AuthorityRows x = new AuthorityRows();
        x.sign('a' + 256);
        x.sign('B' - 256);
        x.sign(Integer.MIN_VALUE + '7');
        due("2: the lowest eight bits", x.heading(0), 1);
        dueText("2: the lowest eight bits", x, 1, "aB7");
        due("2: 40 signs", collect(x, "abcdefghijklmnopqrstabcdefghijklmnopqrst").find(), -99);
        due("2: 41 signs", collect(x, "abcdefghijklmnopqrstabcdefghijklmnopqrstu").find(), -99);
        StringBuilder many = new StringBuilder();
        for (int i = 0; i < 300; i++) {
            many.append('a');
        }
        due("2: 300 signs", collect(x, many.toString()).heading(0), -99);
        due("2: then nothing is collected", collect(x, "ab7").find(), 1);
    }

    private static void promise3Heading() {
        AuthorityRows x = new AuthorityRows();
        due("3: first", heading(x, "Twain", 0), 1);
        due("3: the same but for capitals", heading(x, "tWAIN", 0), -1);
        due("3: of another kind", heading(x, "tWAIN", 3), 2);
        due("3: the clash is of this kind", heading(x, "twain", 3), -2);
        dueText("3: a clash changes nothing", x, 2, "tWAIN");
        due("3: a text's beginning is another text", heading(x, "twai", 0), 3);
        due("3: a longer text is another text", heading(x, "twain1", 0), 4);
        due("3: kind 4", heading(x, "other", 4), 0);
        due("3: kind -1", heading(x, "other", -1), 0);
        due("3: the text is gone after a wrong kind", x.heading(0), -99);
        due("3: a bad text is looked at first", heading(x, "a-b", 4), -99);
        due("3: nothing happened", collect(x, "other").find(), 0);
        due("3: 20 letters", heading(x, "abcdefghijklmnopqrst", 0), 5);
        due("3: 21 letters", heading(x, "abcdefghijklmnopqrstu", 0), -99);
        due("3: 1 digit", heading(x, "0", 0), 6);
        due("3: azAZ09", heading(x, "azAZ09", 0), 7);
        char[] others = {0, ' ', '/', ':', '@', '[', '`', '{', '_', 127, 0xC4, 0xE4, 255};
        for (char c : others) {
            due("3: sign " + (int) c, heading(x, "a" + c, 0), -99);
        }
        x.delete(1);
        due("3: a deleted heading is no clash, nor is its number free", heading(x, "Twain", 0), 8);
        due("3: the first LIVE one", heading(x, "TWAIN", 0), -8);
        due("3: [ is not {, the edge of capitals", heading(x, "[", 0), -99);
    }

    private static void promise3HeadingFull() {
        AuthorityRows x = withHeadings(60);
        due("3: the 61st", heading(x, "new", 0), 0);
        due("3: the 61st of a text that is there", heading(x, "h7", 0), 0);
        due("3: a bad text comes before full", heading(x, "", 0), -99);
        due("3: heading 60 is there", x.form(60, 0), 60);
        due("3: heading 61 is not", x.form(61, 0), 0);
        due("3: delete(60)", x.delete(60), 1);
        due("3: deleted ones count", heading(x, "new", 0), 0);
        due("3: split when full", collect(x, "new").split(1, 0), 0);
    }

    private static void promise4Link() {
        for (int sort = 0; sort < 4; sort++) {
            AuthorityRows x = withHeadings(4);
            due("4: sort " + sort, x.link(sort, 1, 2, 7), 1);
            due("4: there already, sort " + sort, x.link(sort, 1, 2, 7), 0);
            due("4: there already with another day, sort " + sort, x.link(sort, 1, 2, 8), 0);
            due("4: the same, sort " + sort, x.link(sort, 3, 3, 7), 0);
            for (int h : WRONG_NUMBERS) {
                due("4: from " + h, x.link(sort, h, 1, 7), 0);
                due("4: to " + h, x.link(sort, 3, h, 7), 0);
            }
            due("4: to 5", x.link(sort, 3, 5, 7), 0);
            due("4: delete(4)", x.delete(4), 1);
            due("4: from a deleted one", x.link(sort, 4, 3, 7), 0);
            due("4: to a deleted one", x.link(sort, 3, 4, 7), 0);
        }
        AuthorityRows x = withHeadings(2);
        due("4: sort 4", x.link(4, 1, 2, 0), 0);
        due("4: sort -1", x.link(-1, 1, 2, 0), 0);
        due("4: sort max", x.link(Integer.MAX_VALUE, 1, 2, 0), 0);
        due("4: sort min", x.link(Integer.MIN_VALUE, 1, 2, 0), 0);
        for (int sort = 0; sort < 4; sort++) {
            due("4: sorts are apart, " + sort, x.link(sort, 1, 2, 0), 1);
        }
        due("4: ALSO goes back", x.link(ALSO, 2, 1, 0), 1);
        due("4: a refused LATER keeps the first day", x.form(1, 0), 2);
    }

    private static void promise4LinkSee() {
        AuthorityRows x = withHeadings(5);
        due("4: see 2 1", x.link(SEE, 2, 1, 0), 1);
        due("4: the first SEEs already", x.link(SEE, 2, 3, 0), 0);
        due("4: another SEEs to the first", x.link(SEE, 1, 3, 0), 0);
        due("4: the second SEEs", x.link(SEE, 3, 2, 0), 0);
        due("4: back", x.link(SEE, 1, 2, 0), 0);
        due("4: another to the same", x.link(SEE, 3, 1, 0), 1);
        due("4: a pair of others", x.link(SEE, 4, 5, 0), 1);
        due("4: SEE refusals tell no ring", x.ring(0), 0);
        due("4: other kinds", heading(x, "k", 3), 6);
        due("4: SEE to another kind", x.link(SEE, 6, 1, 0), 1);
    }

    private static void promise4LinkRings() {
        for (int sort = BROADER; sort <= LATER; sort++) {
            int other = BROADER + LATER - sort;
            AuthorityRows x = withHeadings(4);
            due("4: 1 2", x.link(sort, 1, 2, 5), 1);
            due("4: 2 1 comes back", x.link(sort, 2, 1, 9), 0);
            due("4: 2 1 of the other sort", x.link(other, 2, 1, 9), 1);
            due("4: 2 3", x.link(sort, 2, 3, 5), 1);
            due("4: 3 4", x.link(sort, 3, 4, 5), 1);
            due("4: 4 1 comes back", x.link(sort, 4, 1, Long.MIN_VALUE), 0);
            due("4: 1 4 is no ring", x.link(sort, 1, 4, 5), 1);
            due("4: 1 3 is no ring", x.link(sort, 1, 3, 5), 1);
            due("4: delete(3)", x.delete(3), 1);
            due("4: 4 2 does not come back any more", x.link(sort, 4, 2, 5), 1);
            due("4: 2 4 now does", x.link(sort, 2, 4, 5), 0);
        }
    }

    private static void promise5Rename() {
        AuthorityRows x = withHeadings(3);
        due("5: other kind", heading(x, "kind2", 2), 4);
        due("5: no records", collect(x, "New").rename(1), 0);
        dueText("5: the text is new", x, 1, "New");
        due("5: the old text is gone", collect(x, "h1").find(), 0);
        x.record(1, 5);
        x.record(1, 6);
        x.record(2, 6);
        due("5: two records", collect(x, "longerText1234567890").rename(1), 2);
        due("5: shorter again", collect(x, "Z").rename(1), 2);
        dueText("5: shorter again", x, 1, "Z");
        due("5: its own text in capitals", collect(x, "z").rename(1), 2);
        dueText("5: its own text as told", x, 1, "z");
        due("5: a clash", collect(x, "H2").rename(1), -2);
        dueText("5: nothing happens", x, 1, "z");
        due("5: then nothing is collected", x.rename(1), -99);
        due("5: the text of another kind", collect(x, "KIND2").rename(1), 2);
        due("5: the kind stays", heading(x, "kind2", 0), -1);
        due("5: the other stays", heading(x, "kind2", 2), -4);
        x.delete(3);
        due("5: a deleted one's text", collect(x, "h3").rename(1), 2);
        due("5: deleted", collect(x, "new").rename(3), -100);
        dueText("5: deleted keeps its text", x, 3, "h3");
        for (int h : WRONG_NUMBERS) {
            due("5: rename(" + h + ")", collect(x, "new").rename(h), -100);
            due("5: a bad text first", collect(x, "n w").rename(h), -99);
        }
        due("5: -100 comes before a clash", collect(x, "h2").rename(5), -100);
        due("5: the text is gone after -100", x.find(), -99);
    }

    private static void promise6Find() {
        AuthorityRows x = new AuthorityRows();
        due("6: none", collect(x, "abc").find(), 0);
        due("6: then nothing is collected", x.find(), -99);
        heading(x, "Abc", 3);
        heading(x, "abC", 1);
        heading(x, "ab", 0);
        due("6: the first of any kind", collect(x, "ABC").find(), 1);
        due("6: ab", collect(x, "AB").find(), 3);
        due("6: a", collect(x, "a").find(), 0);
        x.delete(1);
        due("6: the first LIVE", collect(x, "ABC").find(), 2);
        x.delete(2);
        due("6: none LIVE", collect(x, "ABC").find(), 0);
        due("6: a bad sign", collect(x, "a.").find(), -99);
        due("6: 21", collect(x, "123456789012345678901").find(), -99);
        due("6: 20", collect(x, "12345678901234567890").find(), 0);
    }

    private static void promise7See() {
        AuthorityRows x = withHeadings(5);
        x.link(SEE, 5, 2, 0);
        x.link(SEE, 1, 2, 0);
        x.link(SEE, 4, 2, 0);
        x.link(ALSO, 3, 2, 0);
        due("7: by numbers", x.see(2, 0), 1);
        due("7: by numbers", x.see(2, 1), 4);
        due("7: by numbers", x.see(2, 2), 5);
        due("7: past the end", x.see(2, 3), 0);
        due("7: -1", x.see(2, -1), 0);
        due("7: max", x.see(2, Integer.MAX_VALUE), 0);
        due("7: min", x.see(2, Integer.MIN_VALUE), 0);
        due("7: not the other way", x.see(1, 0), 0);
        for (int h : WRONG_NUMBERS) {
            due("7: see(" + h + ", 0)", x.see(h, 0), 0);
        }
        x.delete(4);
        due("7: without a deleted one", x.see(2, 1), 5);
        x.delete(2);
        due("7: of a deleted one", x.see(2, 0), 0);
    }

    private static void promise8Broader() {
        AuthorityRows x = withHeadings(8);
        x.link(BROADER, 8, 7, 0);
        x.link(BROADER, 8, 5, 0);
        x.link(BROADER, 7, 1, 0);
        x.link(BROADER, 5, 6, 0);
        x.link(BROADER, 5, 2, 0);
        x.link(BROADER, 8, 2, 0);
        x.link(BROADER, 1, 4, 0);
        x.link(BROADER, 6, 4, 0);
        x.link(LATER, 8, 3, 0);
        dueBroader("8: by links away, then numbers", x, 8, 2, 5, 7, 1, 6, 4);
        dueBroader("8: from 5", x, 5, 2, 6, 4);
        dueBroader("8: the top", x, 4);
        due("8: -1", x.broader(8, -1), 0);
        due("8: min", x.broader(8, Integer.MIN_VALUE), 0);
        due("8: max", x.broader(8, Integer.MAX_VALUE), 0);
        for (int h : WRONG_NUMBERS) {
            due("8: broader(" + h + ", 0)", x.broader(h, 0), 0);
        }
        x.delete(5);
        dueBroader("8: without 5", x, 8, 2, 7, 1, 4);
        dueBroader("8: deleted", x, 5);
    }

    private static void promise8BroaderLongChain() {
        AuthorityRows x = withHeadings(60);
        for (int h = 60; h > 1; h--) {
            due("8: chain", x.link(BROADER, h, h - 1, 0), 1);
        }
        due("8: first of the chain", x.broader(60, 0), 59);
        due("8: last of the chain", x.broader(60, 58), 1);
        due("8: past the chain", x.broader(60, 59), 0);
    }

    private static void promise9Delete() {
        AuthorityRows x = withHeadings(3);
        due("9: a live one", x.delete(2), 1);
        due("9: again", x.delete(2), 0);
        for (int h : WRONG_NUMBERS) {
            due("9: delete(" + h + ")", x.delete(h), 0);
        }
        due("9: 4", x.delete(4), 0);
        x.record(1, 0);
        x.record(1, 0);
        x.link(SEE, 3, 1, 0);
        due("9: two records", x.delete(1), -2);
        due("9: nothing happened", x.see(1, 0), 3);
        due("9: still there", x.form(1, 0), 1);
        due("9: a form that is not used", x.delete(3), 1);
        collect(x, "moved").split(1, Long.MIN_VALUE);
        due("9: records are gone to another", x.delete(1), 1);
        due("9: where they are", x.delete(4), -2);
    }

    private static void promise9DeleteLinks() {
        AuthorityRows x = withHeadings(5);
        x.link(SEE, 2, 3, 0);
        x.link(LATER, 1, 4, 1);
        x.link(LATER, 1, 3, 2);
        x.link(LATER, 3, 5, 2);
        x.link(LATER, 4, 5, 9);
        due("9: before", x.shown(2, 3), 5);
        due("9: before", x.form(1, 3), 5);
        due("9: delete(3)", x.delete(3), 1);
        due("9: the SEE to it is gone", x.shown(2, 3), 2);
        due("9: the LATER to it is gone", x.form(1, 3), 4);
        due("9: other LATER links stay", x.form(1, 9), 5);
        due("9: 2 may SEE again", x.link(SEE, 2, 1, 0), 1);
        due("9: delete(2)", x.delete(2), 1);
        due("9: the SEE from it is gone", x.link(SEE, 1, 4, 0), 1);
        due("9: 1 still comes to 5 by 4", x.link(LATER, 5, 1, 0), 0);
        due("9: delete(4)", x.delete(4), 1);
        due("9: no LATER is left", x.link(LATER, 5, 1, 0), 1);
    }

    private static void promise10Split() {
        AuthorityRows x = withHeadings(1);
        heading(x, "b", 2);
        x.record(2, 9);
        x.record(2, 10);
        x.record(2, 11);
        x.record(1, 11);
        due("10: the number", collect(x, "H1").split(2, 10), 3);
        due("10: a day below stays", x.linked(1), 2);
        due("10: the day itself goes", x.linked(2), 3);
        due("10: a day above goes", x.linked(3), 3);
        due("10: another heading's stays", x.linked(4), 1);
        dueText("10: the text", x, 3, "H1");
        due("10: it is of the same kind", heading(x, "h1", 2), -3);
        due("10: LATER from the day on", x.form(2, 10), 3);
        due("10: not before it", x.form(2, 9), 2);
        due("10: the link is there", x.link(LATER, 2, 3, 99), 0);
        due("10: back would be a ring", x.link(LATER, 3, 2, 99), 0);
        dueRing("10: back would be a ring", x, 2, 3);
        due("10: twice", collect(x, "c").split(2, 5), 4);
        due("10: twice, the record", x.linked(1), 4);
        due("10: the latest day", x.form(2, 10), 3);
        due("10: the earlier day", x.form(2, 9), 4);
    }

    private static void promise10SplitRefused() {
        AuthorityRows x = withHeadings(3);
        x.record(1, 10);
        due("10: its own text", collect(x, "H1").split(1, 0), -1);
        due("10: another's text", collect(x, "H2").split(1, 0), -2);
        due("10: then nothing is collected", x.split(1, 0), -99);
        due("10: a bad text", collect(x, "a b").split(1, 0), -99);
        due("10: nothing happened", x.linked(1), 1);
        due("10: nothing happened", x.form(1, 0), 1);
        x.delete(3);
        due("10: deleted", collect(x, "new").split(3, 0), 0);
        due("10: the text is gone", x.find(), -99);
        for (int h : WRONG_NUMBERS) {
            due("10: split(" + h + ")", collect(x, "new").split(h, 0), 0);
            due("10: a bad text first", collect(x, "!").split(h, 0), -99);
        }
        due("10: a deleted one's text is free", collect(x, "h3").split(1, 0), 4);
    }

    private static void promise11Shown() {
        AuthorityRows x = withHeadings(5);
        due("11: itself", x.shown(1, 0), 1);
        x.link(SEE, 1, 2, 0);
        due("11: the used form", x.shown(1, 0), 2);
        x.link(LATER, 2, 3, 10);
        due("11: before the day", x.shown(1, 9), 2);
        due("11: the form of the used form", x.shown(1, 10), 3);
        x.link(LATER, 1, 4, 0);
        due("11: not the used form's of the form", x.shown(1, 10), 3);
        x.link(SEE, 3, 5, 0);
        due("11: a form is not followed by SEE", x.shown(1, 10), 3);
        due("11: one that SEEs", x.shown(3, 10), 5);
        x.delete(5);
        due("11: deleted", x.shown(5, 10), 0);
        for (int h : WRONG_NUMBERS) {
            due("11: shown(" + h + ")", x.shown(h, 10), 0);
        }
    }

    private static void promise12Record() {
        AuthorityRows x = withHeadings(3);
        x.link(SEE, 1, 2, 0);
        x.link(LATER, 2, 3, 0);
        due("12: first", x.record(1, 100), 1);
        due("12: to the used form, not the later one", x.linked(1), 2);
        due("12: second", x.record(3, 100), 2);
        due("12: 4", x.record(4, 0), 0);
        for (int h : WRONG_NUMBERS) {
            due("12: record(" + h + ")", x.record(h, 0), 0);
        }
        x.delete(1);
        due("12: deleted", x.record(1, 0), 0);
        for (int r = 3; r <= 60; r++) {
            due("12: record " + r, x.record(2, r), r);
        }
        due("12: the 61st", x.record(2, 0), 0);
        due("12: all stay", x.linked(60), 2);
        due("12: none more", x.linked(61), 0);
        due("12: counted", x.delete(2), -59);
    }

    private static void promise13Linked() {
        AuthorityRows x = withHeadings(3);
        x.record(3, 0);
        x.record(1, 0);
        due("13: 1", x.linked(1), 3);
        due("13: 2", x.linked(2), 1);
        due("13: 3", x.linked(3), 0);
        for (int r : WRONG_NUMBERS) {
            due("13: linked(" + r + ")", x.linked(r), 0);
        }
        x.link(SEE, 1, 2, 0);
        due("13: a SEE that comes later moves no record", x.linked(2), 1);
    }

    private static void promise14Form() {
        AuthorityRows x = withHeadings(7);
        x.link(LATER, 1, 5, 10);
        x.link(LATER, 1, 3, 10);
        x.link(LATER, 1, 4, 30);
        x.link(LATER, 1, 6, 20);
        due("14: none yet", x.form(1, 9), 1);
        due("14: of the same day the one made first", x.form(1, 10), 5);
        due("14: 19", x.form(1, 19), 5);
        due("14: 20", x.form(1, 20), 6);
        due("14: the latest day, not the one made last", x.form(1, 30), 4);
        x.link(LATER, 4, 7, 40);
        due("14: in turn, on that day", x.form(1, 39), 4);
        due("14: in turn, on that day", x.form(1, 40), 7);
        x.link(LATER, 5, 2, 5);
        due("14: in turn, an earlier day counts", x.form(1, 10), 2);
        x.link(SEE, 2, 7, 0);
        due("14: SEE does not count", x.form(2, 10), 2);
        due("14: max", x.form(1, Long.MAX_VALUE), 7);
        due("14: min", x.form(1, Long.MIN_VALUE), 1);
        x.link(LATER, 6, 7, Long.MIN_VALUE);
        due("14: a link from the least day on", x.form(6, Long.MIN_VALUE), 7);
        x.link(LATER, 3, 7, Long.MAX_VALUE);
        due("14: a link from the last day on", x.form(3, Long.MAX_VALUE), 7);
        due("14: not a day before", x.form(3, Long.MAX_VALUE - 1), 3);
        x.delete(7);
        due("14: deleted", x.form(7, 0), 0);
        for (int h : WRONG_NUMBERS) {
            due("14: form(" + h + ")", x.form(h, 0), 0);
        }
    }

    private static void promise15Ring() {
        AuthorityRows x = withHeadings(9);
        // From 1 to 9: 1 8 2 9, 1 3 7 9, 1 3 6 9, and the longer 1 2 4 5 9.
        int[][] links = {{1, 8}, {8, 2}, {2, 9}, {1, 3}, {3, 7}, {7, 9}, {3, 6}, {6, 9}, {1, 4}, {4, 5}, {5, 2}};
        for (int[] link : links) {
            due("15: link", x.link(BROADER, link[0], link[1], 0), 1);
        }
        due("15: back", x.link(BROADER, 9, 1, 0), 0);
        dueRing("15: the shortest, then the least", x, 1, 3, 6, 9);
        due("15: -1", x.ring(-1), 0);
        due("15: min", x.ring(Integer.MIN_VALUE), 0);
        due("15: max", x.ring(Integer.MAX_VALUE), 0);
        due("15: back within", x.link(BROADER, 2, 1, 0), 0);
        dueRing("15: the latest one", x, 1, 8, 2);
        due("15: LATER", x.link(LATER, 5, 4, 0), 1);
        due("15: LATER back", x.link(LATER, 4, 5, 0), 0);
        dueRing("15: LATER", x, 5, 4);
    }

    private static void promise15RingStays() {
        AuthorityRows x = withHeadings(4);
        due("15: none yet", x.ring(0), 0);
        x.link(BROADER, 1, 2, 0);
        x.link(BROADER, 2, 3, 0);
        due("15: none yet", x.ring(0), 0);
        x.link(BROADER, 3, 1, 0);
        due("15: the same", x.link(BROADER, 1, 1, 0), 0);
        due("15: there already", x.link(BROADER, 1, 2, 0), 0);
        due("15: none such", x.link(BROADER, 1, 5, 0), 0);
        due("15: good", x.link(BROADER, 3, 4, 0), 1);
        due("15: good LATER", x.link(LATER, 4, 3, 0), 1);
        dueRing("15: stays", x, 1, 2, 3);
        due("15: delete", x.delete(2), 1);
        dueRing("15: stays after a delete", x, 1, 2, 3);
    }

    private static void promise15RingLong() {
        AuthorityRows x = withHeadings(60);
        for (int h = 1; h < 60; h++) {
            x.link(LATER, h, h + 1, 0);
        }
        due("15: all 60", x.link(LATER, 60, 1, 0), 0);
        for (int i = 0; i < 60; i++) {
            due("15: all 60, ring(" + i + ")", x.ring(i), i + 1);
        }
        due("15: past the 60", x.ring(60), 0);
        due("15: the form at the end of 59 links", x.form(1, 0), 60);
    }

    private static void promise16Letter() {
        AuthorityRows x = new AuthorityRows();
        heading(x, "aBcdefghijklmnopqrS9", 0);
        heading(x, "Z", 1);
        dueText("16: as it was told", x, 1, "aBcdefghijklmnopqrS9");
        due("16: the last", x.letter(1, 19), '9');
        due("16: past the end", x.letter(1, 20), -1);
        due("16: only one", x.letter(2, 0), 'Z');
        due("16: past the end of one", x.letter(2, 1), -1);
        due("16: -1", x.letter(2, -1), -1);
        due("16: min", x.letter(2, Integer.MIN_VALUE), -1);
        due("16: max", x.letter(2, Integer.MAX_VALUE), -1);
        due("16: 3", x.letter(3, 0), -1);
        for (int h : WRONG_NUMBERS) {
            due("16: letter(" + h + ", 0)", x.letter(h, 0), -1);
        }
        x.delete(2);
        due("16: a deleted heading has its text", x.letter(2, 0), 'Z');
    }
}
