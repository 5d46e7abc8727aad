/** A test for each sentence on links, and on what is told by them, that names a boundary case. */
public final class LinkBoundaryTests extends Checks {
    private static final int[] SORTS = {SEE, ALSO, BROADER, LATER};
    private static final int[] RINGLESS = {BROADER, LATER};
    private static final int[] WRONG_PLACES = {-1, -2, -64, LEAST, LEAST + 1, MOST, 64, 1 << 30};

    public static void main(String[] args) {
        linkOfHeadingsNotThere();
        linkOfDeletedHeadings();
        linkOfTheSame();
        linkOfNoSuchSort();
        linkThatIsThere();
        linkOfAll60();
        seeWhereTheFirstSees();
        seeWhereAnotherSeesToTheFirst();
        seeWhereTheSecondSees();
        seeThatIsFreeAgain();
        ringsAreRefused();
        ringsOfOtherSortsAreNot();
        ringsThatADeleteOpens();
        seeByNumbers();
        seeNoneSuch();
        seeFull();
        broaderEachButOnce();
        broaderByLinksThenNumbers();
        broaderNoneSuch();
        broaderFull();
        broaderThroughTheFirstAndTheLast();
        deleteTakesAllLinks();
        deleteTakesLinksOfTheFirstAndTheLast();
        deletedLinksStayGone();
        deleteWithRecords();
        deleteNoneSuch();
        ringWhereThereWasNone();
        ringEnds();
        ringIsTheLatest();
        ringIsTheShortest();
        ringIsTheLeastFromTheFront();
        ringFull();
        finish();
    }

    /** Headings 1 to 4, of which 4 is DELETED, a link of each sort from 1 to 2, and a ring 1 2. */
    private static AuthorityRows busy() {
        AuthorityRows x = withHeadings(4);
        due("delete(4)", x.delete(4), 1);
        for (int sort : SORTS) {
            link(x, sort, 1, 2, 7);
        }
        due("the ring", x.link(BROADER, 2, 1, 0), 0);
        due("the record", x.record(3, 5), 1);
        return x;
    }

    private static void refused(AuthorityRows x, int sort, int a, int b, long day) {
        String call = "link(" + sort + ", " + a + ", " + b + ", " + day + ")";
        dueAndNothingHappens(call, x, y -> y.link(sort, a, b, day), 0);
    }

    private static void linkOfHeadingsNotThere() {
        says("4: 0, and nothing happens, if a heading is not there");
        for (int sort : SORTS) {
            AuthorityRows x = busy();
            for (int h : WRONG_NUMBERS) {
                due("from " + h, x.link(sort, h, 3, 0), 0);
                due("to " + h, x.link(sort, 3, h, 0), 0);
                due("from and to " + h, x.link(sort, h, h, 0), 0);
            }
            refused(x, sort, 3, 5, 0);
            refused(busy(), sort, 5, 3, 0);
            refused(busy(), sort, 0, 3, 0);
            refused(busy(), sort, 3, 0, 0);
        }
    }

    private static void linkOfDeletedHeadings() {
        says("4: 0, and nothing happens, if a heading is DELETED");
        for (int sort : SORTS) {
            refused(busy(), sort, 4, 3, 0);
            refused(busy(), sort, 3, 4, 0);
        }
    }

    private static void linkOfTheSame() {
        says("4: 0, and nothing happens, if they are the same");
        for (int sort : SORTS) {
            refused(busy(), sort, 3, 3, 0);
            AuthorityRows x = withHeadings(60);
            due("60 to 60", x.link(sort, 60, 60, 0), 0);
            due("no way is told of it", x.ring(0), 0);
        }
    }

    private static void linkOfNoSuchSort() {
        says("4: 0, and nothing happens, if there is no such sort");
        for (int sort : new int[] {-1, 4, 5, -4, 256, 258, LEAST, LEAST + 2, MOST}) {
            refused(busy(), sort, 3, 1, 0);
        }
        AuthorityRows x = withHeadings(2);
        for (int sort : SORTS) {
            due("sort " + sort + " is there", x.link(sort, 1, 2, 0), 1);
        }
    }

    private static void linkThatIsThere() {
        says("4: 0, and nothing happens, if the link is there (of LATER: with any day)");
        for (int sort : SORTS) {
            for (long day : new long[] {6, 7, 8, Long.MIN_VALUE, Long.MAX_VALUE}) {
                refused(busy(), sort, 1, 2, day);
            }
        }
        AuthorityRows x = withHeadings(3);
        link(x, LATER, 1, 2, 7);
        due("an earlier day", x.link(LATER, 1, 2, 3), 0);
        due("the day is as it was", x.form(1, 6), 1);
        due("the day is as it was", x.form(1, 7), 2);
        link(x, LATER, 1, 3, 7);
        due("a later day", x.link(LATER, 1, 2, 9), 0);
        due("the first made is as it was", x.form(1, 9), 2);
        link(x, ALSO, 1, 2, 0);
        due("the other way of ALSO is another link", x.link(ALSO, 2, 1, 0), 1);
    }

    private static void linkOfAll60() {
        says("4: A LINK of a sort: 1, from the first heading to the last and back");
        for (int sort : SORTS) {
            AuthorityRows x = withHeadings(60);
            due("1 to 60", x.link(sort, 1, 60, 0), 1);
            due("59 to 60", x.link(sort, 59, 60, 0), 1);
            due("again", x.link(sort, 59, 60, 0), 0);
            due("2 to 1", x.link(sort, 2, 1, 0), sort == SEE ? 0 : 1);
            due("60 to 61", x.link(sort, 60, 61, 0), 0);
        }
        AuthorityRows x = withHeadings(60);
        due("60 to 1", x.link(LATER, 60, 1, 0), 1);
        due("form(60, 0)", x.form(60, 0), 1);
    }

    private static void seeWhereTheFirstSees() {
        says("4: 0 if it is a SEE and the first one SEEs already");
        refused(busy(), SEE, 1, 3, 0);
        AuthorityRows x = busy();
        for (int sort : new int[] {ALSO, BROADER, LATER}) {
            due("sort " + sort + " is no SEE", x.link(sort, 1, 3, 0), 1);
        }
    }

    private static void seeWhereAnotherSeesToTheFirst() {
        says("4: 0 if it is a SEE and another one SEEs to the first one");
        refused(busy(), SEE, 2, 3, 0);
        refused(busy(), SEE, 2, 1, 0);
        AuthorityRows x = busy();
        for (int sort : new int[] {ALSO, BROADER, LATER}) {
            due("sort " + sort + " is no SEE", x.link(sort, 2, 3, 0), 1);
        }
        link(x, SEE, 3, 2, 0);
        dueSee("two may SEE to one", x, 2, 1, 3);
    }

    private static void seeWhereTheSecondSees() {
        says("4: 0 if it is a SEE and the second one SEEs itself");
        refused(busy(), SEE, 3, 1, 0);
        AuthorityRows x = busy();
        for (int sort : new int[] {ALSO, BROADER, LATER}) {
            due("sort " + sort + " is no SEE", x.link(sort, 3, 1, 0), 1);
        }
    }

    private static void seeThatIsFreeAgain() {
        says("4, 9: a SEE that went with a DELETED heading refuses none");
        AuthorityRows x = withHeadings(5);
        link(x, SEE, 1, 2, 0);
        due("delete(2)", x.delete(2), 1);
        due("the first one SEEs no more", x.link(SEE, 1, 3, 0), 1);
        due("delete(1)", x.delete(1), 1);
        due("none SEEs to the first one", x.link(SEE, 3, 4, 0), 1);
        due("delete(4)", x.delete(4), 1);
        due("the second one SEEs no more", x.link(SEE, 5, 3, 0), 1);
    }

    private static void ringsAreRefused() {
        says("4: 0, and nothing happens, if by BROADER links, or by LATER ones, one could come back");
        for (int sort : RINGLESS) {
            for (int length = 2; length <= 5; length++) {
                AuthorityRows x = withHeadings(5);
                for (int h = 1; h < length; h++) {
                    link(x, sort, h, h + 1, h);
                }
                due("link " + length + " to 1", x.link(sort, length, 1, 99), 0);
                refused(x, sort, length, 1, Long.MIN_VALUE);
                link(x, sort, 1, 5, 0);
            }
        }
        AuthorityRows x = withHeadings(3);
        link(x, LATER, 1, 2, Long.MAX_VALUE);
        link(x, LATER, 2, 3, Long.MIN_VALUE);
        due("whatever the days", x.link(LATER, 3, 1, 0), 0);
    }

    private static void ringsOfOtherSortsAreNot() {
        says("4: by BROADER links, or by LATER ones: neither by both, nor by other sorts");
        for (int sort : RINGLESS) {
            for (int other : SORTS) {
                if (other != sort) {
                    AuthorityRows x = withHeadings(3);
                    link(x, sort, 1, 2, 0);
                    link(x, other, 2, 3, 0);
                    link(x, sort, 3, 1, 0);
                    due("no way is told", x.ring(0), 0);
                }
            }
        }
        AuthorityRows x = withHeadings(3);
        link(x, ALSO, 1, 2, 0);
        link(x, ALSO, 2, 3, 0);
        link(x, ALSO, 3, 1, 0);
        due("ALSO may come back", x.ring(0), 0);
    }

    private static void ringsThatADeleteOpens() {
        says("4, 9: links that went with a DELETED heading close no ring");
        for (int sort : RINGLESS) {
            AuthorityRows x = withHeadings(4);
            link(x, sort, 1, 2, 0);
            link(x, sort, 2, 3, 0);
            due("3 to 1", x.link(sort, 3, 1, 0), 0);
            due("delete(2)", x.delete(2), 1);
            due("3 to 1, without 2", x.link(sort, 3, 1, 0), 1);
            due("1 to 3 now", x.link(sort, 1, 3, 0), 0);
        }
    }

    private static void seeByNumbers() {
        says("7: The i-th heading, from 0 on, by numbers, that SEEs to one");
        AuthorityRows x = withHeadings(6);
        link(x, SEE, 6, 3, 0);
        link(x, SEE, 1, 3, 0);
        link(x, SEE, 4, 3, 0);
        link(x, ALSO, 2, 3, 0);
        link(x, BROADER, 2, 3, 0);
        link(x, LATER, 2, 3, 0);
        dueSee("by numbers", x, 3, 1, 4, 6);
        dueSee("not the other way", x, 6);
        dueSee("no other sorts", x, 2);
        due("delete(4)", x.delete(4), 1);
        dueSee("without a DELETED one", x, 3, 1, 6);
        due("delete(3)", x.delete(3), 1);
        dueSee("of a DELETED one", x, 3);
    }

    private static void seeNoneSuch() {
        says("7: 0 if there is none such");
        AuthorityRows x = busy();
        for (int i : WRONG_PLACES) {
            due("see(2, " + i + ")", x.see(2, i), 0);
        }
        for (int h : WRONG_NUMBERS) {
            due("see(" + h + ", 0)", x.see(h, 0), 0);
        }
        due("see(5, 0), the next", x.see(5, 0), 0);
        due("see(4, 0), DELETED", x.see(4, 0), 0);
        due("see(3, 0), of no SEE", x.see(3, 0), 0);
    }

    private static void seeFull() {
        says("7: up to 59 SEE to one");
        AuthorityRows x = withHeadings(60);
        for (int h = 60; h > 1; h--) {
            link(x, SEE, h, 1, 0);
        }
        for (int i = 0; i < 59; i++) {
            due("see(1, " + i + ")", x.see(1, i), i + 2);
        }
        due("see(1, 59)", x.see(1, 59), 0);
        due("see(1, 60)", x.see(1, 60), 0);
    }

    private static void broaderEachButOnce() {
        says("8: broader than one, or broader than these, and so on, each but once");
        AuthorityRows x = withHeadings(5);
        link(x, BROADER, 1, 2, 0);
        link(x, BROADER, 1, 3, 0);
        link(x, BROADER, 2, 4, 0);
        link(x, BROADER, 3, 4, 0);
        link(x, BROADER, 1, 4, 0);
        link(x, BROADER, 4, 5, 0);
        link(x, BROADER, 2, 5, 0);
        dueBroader("each but once, by the nearest way", x, 1, 2, 3, 4, 5);
        dueBroader("of the broadest", x, 5);
    }

    private static void broaderByLinksThenNumbers() {
        says("8: by how many links it is away, then by numbers");
        AuthorityRows x = withHeadings(7);
        link(x, BROADER, 4, 7, 0);
        link(x, BROADER, 4, 5, 0);
        link(x, BROADER, 5, 6, 0);
        link(x, BROADER, 5, 2, 0);
        link(x, BROADER, 7, 3, 0);
        link(x, BROADER, 6, 1, 0);
        dueBroader("a far one of a low number is last", x, 4, 5, 7, 2, 3, 6, 1);
        link(x, BROADER, 4, 1, 0);
        dueBroader("a link that brings it near", x, 4, 1, 5, 7, 2, 3, 6);
        due("delete(5)", x.delete(5), 1);
        dueBroader("without a DELETED one", x, 4, 1, 7, 3);
    }

    private static void broaderNoneSuch() {
        says("8: 0 if there is none such");
        AuthorityRows x = busy();
        for (int i : WRONG_PLACES) {
            due("broader(1, " + i + ")", x.broader(1, i), 0);
        }
        for (int h : WRONG_NUMBERS) {
            due("broader(" + h + ", 0)", x.broader(h, 0), 0);
        }
        due("broader(1, 1), past the end", x.broader(1, 1), 0);
        due("broader(2, 0), of the broadest", x.broader(2, 0), 0);
        due("broader(3, 0), of no link", x.broader(3, 0), 0);
        due("broader(4, 0), DELETED", x.broader(4, 0), 0);
        due("broader(5, 0), the next", x.broader(5, 0), 0);
    }

    private static void broaderFull() {
        says("8: up to 59 are broader, up to 59 links away");
        AuthorityRows chain = withHeadings(60);
        for (int h = 1; h < 60; h++) {
            link(chain, BROADER, h, h + 1, 0);
        }
        for (int i = 0; i < 59; i++) {
            due("of a chain, broader(1, " + i + ")", chain.broader(1, i), i + 2);
        }
        due("of a chain, broader(1, 59)", chain.broader(1, 59), 0);
        AuthorityRows star = withHeadings(60);
        for (int h = 59; h >= 1; h--) {
            link(star, BROADER, 60, h, 0);
        }
        for (int i = 0; i < 59; i++) {
            due("of a star, broader(60, " + i + ")", star.broader(60, i), i + 1);
        }
        due("of a star, broader(60, 59)", star.broader(60, 59), 0);
    }

    private static void broaderThroughTheFirstAndTheLast() {
        says("8: broader than these, and so on, where these are the first and the last of the 60");
        AuthorityRows x = withHeadings(60);
        link(x, BROADER, 2, 60, 0);
        link(x, BROADER, 60, 1, 0);
        link(x, BROADER, 1, 3, 0);
        dueBroader("by 60 and by 1", x, 2, 60, 1, 3);
        due("back", x.link(BROADER, 3, 2, 0), 0);
        dueRing("by 60 and by 1", x, 2, 60, 1, 3);
    }

    private static void deleteTakesAllLinks() {
        says("9: A heading is DELETED, and all its LINKS, from it and to it, go: 1");
        for (int sort : SORTS) {
            AuthorityRows x = withHeadings(5);
            link(x, sort, 1, 2, 0);
            link(x, sort, 3, 4, 0);
            due("delete(2)", x.delete(2), 1);
            due("delete(3)", x.delete(3), 1);
            dueSee("to it", x, 2);
            dueSee("from it", x, 4);
            dueBroader("to it", x, 1);
            dueBroader("from it", x, 3);
            due("form(1, 0)", x.form(1, 0), 1);
            due("shown(1, 0)", x.shown(1, 0), 1);
            due("form(2, 0)", x.form(2, 0), 0);
            due("shown(3, 0)", x.shown(3, 0), 0);
            due("record(2, 0)", x.record(2, 0), 0);
            due("the links of others", x.link(sort, 5, 4, 0), 1);
            due("the links of others", x.link(sort, 5, 4, 0), 0);
            due("1 to 4", x.link(sort, 1, 4, 0), 1);
        }
        AuthorityRows x = withHeadings(4);
        link(x, LATER, 1, 2, 5);
        link(x, LATER, 1, 3, 5);
        link(x, LATER, 1, 4, 5);
        due("delete(2)", x.delete(2), 1);
        due("the next that was made first", x.form(1, 5), 3);
    }

    private static void deleteTakesLinksOfTheFirstAndTheLast() {
        says("9: all its LINKS, from it and to it, go, also those of the first and the last of the 60");
        for (int end : new int[] {1, 60}) {
            AuthorityRows x = withHeadings(60);
            for (int sort : SORTS) {
                link(x, sort, end, 30, 0);
            }
            link(x, SEE, 31, 30, 0);
            due("delete(30)", x.delete(30), 1);
            dueBroader("to a DELETED one", x, end);
            due("form(" + end + ", 0)", x.form(end, 0), end);
            due("shown(" + end + ", 0)", x.shown(end, 0), end);
            due("see(30, 0)", x.see(30, 0), 0);
            for (int sort : SORTS) {
                link(x, sort, 31, end, 0);
            }
            due("delete(" + end + ")", x.delete(end), 1);
            dueBroader("to a DELETED end", x, 31);
            due("form(31, 0)", x.form(31, 0), 31);
            due("shown(31, 0)", x.shown(31, 0), 31);
        }
    }

    private static void deletedLinksStayGone() {
        says("9: all its LINKS go, and none comes back by a later delete or link");
        AuthorityRows x = withHeadings(8);
        link(x, LATER, 1, 2, 5);
        link(x, LATER, 3, 4, 6);
        link(x, LATER, 5, 4, 6);
        link(x, LATER, 1, 3, 6);
        due("delete(3)", x.delete(3), 1);
        due("without 3", x.form(1, 6), 2);
        due("delete(7)", x.delete(7), 1);
        due("after another delete", x.form(1, 6), 2);
        link(x, LATER, 2, 6, 5);
        due("after another link", x.form(1, 6), 6);
        due("delete(6)", x.delete(6), 1);
        due("delete(4)", x.delete(4), 1);
        due("delete(8)", x.delete(8), 1);
        due("after all", x.form(1, 9), 2);
        due("after all", x.form(5, 9), 5);
    }

    private static void deleteWithRecords() {
        says("9: Less how many records are LINKED to it, and nothing happens, if there are some");
        AuthorityRows x = busy();
        dueAndNothingHappens("delete(3) of one record", x, y -> y.delete(3), -1);
        due("record", x.record(1, 0), 2);
        dueAndNothingHappens("delete(2) of one by SEE", x, y -> y.delete(2), -1);
        due("find() of it", collect(x, "h2").find(), 2);
        due("delete(1), that only SEEs", x.delete(1), 1);
        AuthorityRows full = withHeadings(1);
        for (int r = 1; r <= 60; r++) {
            full.record(1, 0);
        }
        due("delete(1) of all 60", full.delete(1), -60);
        due("split", collect(full, "all").split(1, 0), 2);
        due("delete(1) of none", full.delete(1), 1);
        due("delete(2) of all 60", full.delete(2), -60);
    }

    private static void deleteNoneSuch() {
        says("9: 0 if there is none such, or it is");
        AuthorityRows x = busy();
        for (int h : WRONG_NUMBERS) {
            due("delete(" + h + ")", x.delete(h), 0);
        }
        dueAndNothingHappens("delete(5), the next", x, y -> y.delete(5), 0);
        dueAndNothingHappens("delete(4), DELETED", busy(), y -> y.delete(4), 0);
        AuthorityRows all = withHeadings(60);
        due("delete(61)", all.delete(61), 0);
        for (int h = 1; h <= 60; h++) {
            due("delete(" + h + ")", all.delete(h), 1);
            due("delete(" + h + ") again", all.delete(h), 0);
        }
    }

    private static void ringWhereThereWasNone() {
        says("15: 0 if there was none");
        AuthorityRows x = withHeadings(3);
        due("of no link", x.ring(0), 0);
        link(x, BROADER, 1, 2, 0);
        link(x, LATER, 1, 2, 0);
        link(x, SEE, 1, 2, 0);
        due("refused, there", x.link(BROADER, 1, 2, 0), 0);
        due("refused, the same", x.link(LATER, 1, 1, 0), 0);
        due("refused, no heading", x.link(BROADER, 2, 9, 0), 0);
        due("refused, a SEE back", x.link(SEE, 2, 1, 0), 0);
        for (int i : new int[] {0, 1, 59, 60, -1, LEAST, MOST}) {
            due("ring(" + i + ")", x.ring(i), 0);
        }
    }

    private static void ringEnds() {
        says("15: 0 past its end");
        AuthorityRows x = busy();
        dueRing("of two", x, 1, 2);
        for (int i : WRONG_PLACES) {
            due("ring(" + i + ")", x.ring(i), 0);
        }
        for (int i = 2; i <= 62; i++) {
            due("ring(" + i + ")", x.ring(i), 0);
        }
    }

    private static void ringIsTheLatest() {
        says("15: the latest link() that was refused for coming back");
        AuthorityRows x = withHeadings(5);
        link(x, BROADER, 1, 2, 0);
        link(x, BROADER, 2, 3, 0);
        link(x, BROADER, 3, 4, 0);
        link(x, LATER, 5, 4, 0);
        due("a long one", x.link(BROADER, 4, 1, 0), 0);
        dueRing("a long one", x, 1, 2, 3, 4);
        due("a shorter one", x.link(LATER, 4, 5, 0), 0);
        dueRing("a shorter one, with nothing left of the long", x, 5, 4);
        due("there", x.link(BROADER, 1, 2, 0), 0);
        due("the same", x.link(BROADER, 3, 3, 0), 0);
        due("no heading", x.link(LATER, 1, 6, 0), 0);
        due("no sort", x.link(4, 2, 1, 0), 0);
        link(x, SEE, 1, 2, 0);
        due("a SEE back", x.link(SEE, 2, 1, 0), 0);
        dueRing("after other refusals", x, 5, 4);
        link(x, BROADER, 1, 5, 0);
        dueRing("after a good one", x, 5, 4);
        due("delete(4)", x.delete(4), 1);
        dueRing("after a delete", x, 5, 4);
        due("a part of the old one", x.link(BROADER, 3, 2, 0), 0);
        dueRing("a part of the old one", x, 2, 3);
    }

    private static void ringIsTheShortest() {
        says("15: the shortest way");
        for (int sort : RINGLESS) {
            AuthorityRows x = withHeadings(6);
            link(x, sort, 1, 2, 0);
            link(x, sort, 2, 3, 0);
            link(x, sort, 3, 4, 0);
            link(x, sort, 4, 6, 0);
            link(x, sort, 1, 5, 9);
            link(x, sort, 5, 6, 9);
            due("6 to 1", x.link(sort, 6, 1, 0), 0);
            dueRing("by the high number, as it is shorter", x, 1, 5, 6);
            link(x, sort, 1, 6, 5);
            due("6 to 1 again", x.link(sort, 6, 1, 0), 0);
            dueRing("the two alone", x, 1, 6);
        }
    }

    private static void ringIsTheLeastFromTheFront() {
        says("15: of those the one whose numbers are the least from the front on");
        for (int sort : RINGLESS) {
            AuthorityRows x = withHeadings(8);
            // From 4 to 8: 4 5 1 8, 4 3 7 8 and 4 3 6 8, where 5 1 is made first and has the least number.
            int[][] links = {{4, 5}, {5, 1}, {1, 8}, {4, 3}, {3, 7}, {7, 8}, {3, 6}, {6, 8}, {3, 2}};
            for (int[] l : links) {
                link(x, sort, l[0], l[1], 0);
            }
            due("8 to 4", x.link(sort, 8, 4, 0), 0);
            dueRing("the least at the front, then behind it", x, 4, 3, 6, 8);
            link(x, sort, 2, 8, 0);
            due("8 to 4 again", x.link(sort, 8, 4, 0), 0);
            dueRing("a lesser one behind", x, 4, 3, 2, 8);
        }
    }

    private static void ringFull() {
        says("15: from the one to which the link should have gone, on, to the one from which it should have come, all 60");
        for (int sort : RINGLESS) {
            AuthorityRows x = withHeadings(60);
            for (int h = 60; h > 1; h--) {
                link(x, sort, h, h - 1, 0);
            }
            due("1 to 60", x.link(sort, 1, 60, 0), 0);
            for (int i = 0; i < 60; i++) {
                due("ring(" + i + ")", x.ring(i), 60 - i);
            }
            due("ring(60)", x.ring(60), 0);
            due("ring(61)", x.ring(61), 0);
            due("1 to 2", x.link(sort, 1, 2, 0), 0);
            dueRing("1 to 2", x, 2, 1);
        }
    }
}
