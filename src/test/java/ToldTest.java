/** Promises 35 to 41: asked, upper, lower, count, finding, findings, digest. */
public final class ToldTest {
    private static final int BAD = -1, NONE = -9;

    public static void main(String[] args) {
        asked();
        uppers();
        counts();
        findings();
        refusedChangesNothing();
        digestOfNew();
        digests();
        Due.end();
    }

    private static void asked() {
        BridgeAwake x = new BridgeAwake();
        Due.due("asked() before", x.asked(), 0);
        Due.textOf(x, 0, "h100t50t30");
        x.bridge(0);
        Due.rowOf(x, 0, 7);
        Due.told(x, "at", x.at(0, 0), 7);
        Due.told(x, "lay", x.lay(0, 0, 1), 7);
        Due.told(x, "mean", x.mean(0), 1);
        Due.told(x, "one", x.one(0, 1), 5);
        Due.due("through", x.through(0), 13);
        Due.due("through told", x.asked(), 10);
        Due.rowOf(x, 0, 13);
        Due.due("bear", x.bear(0), 2);
        Due.due("bear told", x.asked(), 3);
        Due.told(x, "sagged", x.sagged(0), 1);
        Due.due("sure", x.sure(0), 3);
        Due.due("sure told", x.asked(), 0);
        Due.rowOf(x, 0);
        Due.due("test", x.test(0, 0), 0);
        Due.due("test told", x.asked(), 2);
        x.talk(0, 1);
        x.when(0, 3);
        x.best(1, 3);
        x.pairs(4);
        x.lasts(0, 0);
        x.kinds(0, 0);
        x.odds(0, 1, 3, 3);
        x.mid(0, 1, 3);
        x.duel(2);
        x.watch(0, 1);
        x.load(3);
        x.put(0, 0, 104);
        x.digest();
        x.count(3);
        Due.due("others tell nothing by asked()", x.asked(), 2);
        Due.due("a refused one", x.at(0, 5), -3);
        Due.rowOf(x, 1, 60);
        int told = x.asked();
        Due.due("NONE", x.bear(1), NONE);
        Due.due("asked() stays", x.asked(), told);
        Due.told(x, "sagged by none tells NONE", x.sagged(1), NONE);
    }

    private static void uppers() {
        BridgeAwake x = new BridgeAwake();
        Due.due("upper() before", x.upper(), 0);
        Due.due("lower() before", x.lower(), 1);
        Due.textOf(x, 0, "h100t50t30");
        x.bridge(0);
        Due.share(x, "odds", x.odds(0, 1, 6, 6), 3, 4);
        x.odds(0, 0, 6, 6);
        x.watch(0, 1);
        x.digest();
        Due.due("upper() stays", x.upper(), 3);
        Due.due("lower() stays", x.lower(), 4);
        Due.rowOf(x, 0, 7);
        Due.share(x, "sagged", x.sagged(0), 0, 1);
    }

    private static void counts() {
        BridgeAwake x = Due.bridgeOf("h309 l52 w34 t11 c11", 4);
        x.watch(0, 2);
        x.watch(0, 1);
        x.coffee(0);
        x.load(10);
        x.load(9);
        x.load(60);
        x.watch(1, 2);
        x.row(4, 3);
        x.row(5, 0);
        x.text(3, 0);
        x.keep(1);
        // STRENGTH FELL to 0, so that it is what the last WATCH told: a WIDOWER's 5, a TALKER's 1
        int[] want = {4, 3, 7, 6, 8, 2, 1, 2, 2, 2, 1};
        for (int what = 0; what < want.length; what++) {
            Due.due("count(" + what + ")", x.count(what), want[what]);
        }
        Due.due("count(11)", x.count(11), BAD);
        Due.due("count(-1)", x.count(-1), BAD);
        x.tear(4);
        Due.due("count(8)", x.count(8), 1);
        for (int k = 0; k < 20; k++) {
            x.watch(0, 1);
        }
        Due.due("HOURS go on", x.count(1), 23);
        x.undo(0);
        int[] undone = {4, 0, 0, 30, 9, 0, 0, 2, 1, 2, 1};
        for (int what = 0; what < undone.length; what++) {
            Due.due("count(" + what + ") undone", x.count(what), undone[what]);
        }
    }

    private static void findings() {
        BridgeAwake x = new BridgeAwake();
        Due.due("finding() before", x.finding(), 0);
        for (int f = 1; f <= 5; f++) {
            Due.due("findings(" + f + ") before", x.findings(f), 0);
        }
        Due.due("findings(0)", x.findings(0), BAD);
        Due.due("findings(6)", x.findings(6), BAD);
        Due.due("findings(-1)", x.findings(-1), BAD);
        x.at(0, 0);
        x.at(0, 0);
        Due.due("finding()", x.finding(), 1);
        x.row(0, -1);
        Due.due("finding()", x.finding(), 5);
        x.row(0, 0);
        x.mean(0);
        x.at(0, 0);
        x.at(9, 0);
        x.watch(0, 1);
        Due.due("finding() is the latest", x.finding(), 2);
        int[] want = {2, 1, 0, 1, 1};
        for (int f = 1; f <= 5; f++) {
            Due.due("findings(" + f + ")", x.findings(f), want[f - 1]);
        }
    }

    private static void refusedChangesNothing() {
        BridgeAwake x = Due.bridgeOf("h100t50t30", 2);
        Due.rowOf(x, 0, 7, 8);
        x.keep(0);
        x.watch(0, 1);
        x.odds(0, 1, 9, 5);
        long digest = x.digest();
        long upper = x.upper();
        int asked = x.asked();
        x.lay(0, 2, 5);
        x.row(0, -1);
        x.text(0, -1);
        x.put(0, 99, 5);
        x.copy(0, 1, 0, 0, 2);
        x.on(2);
        x.best(4, 0);
        x.through(0);
        x.bear(1);
        x.sagged(1);
        x.lasts(0, 0);
        x.pairs(-1);
        x.lots(30, 1);
        x.undo(9);
        Due.due("digest() stays", x.digest(), digest);
        Due.due("upper() stays", x.upper(), upper);
        Due.due("asked() stays", x.asked(), asked);
    }

    private static void digestOfNew() {
        long h = 17;
        for (int what = 0; what <= 10; what++) {
            h = 31 * h;
        }
        for (int missing = 0; missing < 3 + 6 + 4; missing++) {
            h = 31 * h - 1;
        }
        Due.due("digest() of a new object", new BridgeAwake().digest(), h);
    }

    private static void digests() {
        BridgeAwake x = Due.bridgeOf("h109t50l30q01", 2);
        Due.rowOf(x, 4, 7, -8);
        x.row(1, 0);
        x.put(0, 3, 300);
        x.watch(0, 1);
        x.watch(0, 1);
        x.coffee(1);
        x.load(1);
        x.keep(1);
        int asked = x.asked();
        int[] values = {2, 2, 4, x.count(3), 8, 1, 0, 1, 2, 1, 1,
            0, 5, 0, 2, 1, 2, 2, 3, 0, 0, 5, 1,
            -1, 4, -1,
            -1, 0, -1, -1, 2, 7, -8, -1,
            13, 'h', '1', '0', 300 - 256, 't', '5', '0', 'l', '3', '0', 'q', '0', '1', -1, -1, -1};
        long h = 17;
        for (int value : values) {
            h = 31 * h + value;
        }
        Due.due("digest()", x.digest(), h);
        Due.due("asked() stays", x.asked(), asked);
        x.put(0, 3, -1);
        Due.due("digest() of a byte below 0", x.digest() == h ? 1 : 0, 0);
    }
}
