import java.util.Arrays;

/** Calls by their names, so that a test can go through many of them. */
final class Calls {
    private Calls() {
    }

    static String text(String name, int... a) {
        String list = Arrays.toString(a);
        return name + "(" + list.substring(1, list.length() - 1) + ")";
    }

    static int answer(TicketScales x, String name, int... a) {
        switch (name) {
            case "setKind": return x.setKind(a[0], a[1], a[2]);
            case "setScale": return x.setScale(a[0], a[1]);
            case "setBias": return x.setBias(a[0]);
            case "setRule": return x.setRule(a[0]);
            case "setFee": return x.setFee(a[0]);
            case "come": return x.come(a[0]);
            case "leave": return x.leave(a[0]);
            case "weigh": return x.weigh(a[0], a[1], a[2], a[3]);
            case "claim": return x.claim(a[0], a[1]);
            case "addPrize": return x.addPrize(a[0], a[1], a[2], a[3], a[4]);
            case "removePrize": return x.removePrize(a[0]);
            case "setPrice": return x.setPrice(a[0], a[1]);
            case "buy": return x.buy(a[0], a[1], a[2]);
            case "take": return x.take(a[0]);
            case "restore": return x.restore(a[0]);
            case "undo": return x.undo();
            case "append": return x.append(a[0]);
            case "clearText": return x.clearText();
            case "run": return x.run();
            default: return lookedAt(x, name, a);
        }
    }

    private static int lookedAt(TicketScales x, String name, int... a) {
        switch (name) {
            case "failure": return x.failure(a[0]);
            case "count": return x.count(a[0]);
            case "kind": return x.kind(a[0], a[1]);
            case "customer": return x.customer(a[0], a[1]);
            case "prize": return x.prize(a[0], a[1]);
            case "read": return x.read(a[0]);
            case "allowed": return x.allowed(a[0], a[1], a[2]);
            case "guess": return x.guess(a[0], a[1], a[2]);
            case "apartUpTo": return x.apartUpTo(a[0]);
            case "bestStep": return x.bestStep(a[0], a[1]);
            case "mixed": return x.mixed(a[0], a[1], a[2], a[3]);
            case "would": return x.would(a[0]);
            case "fairest": return x.fairest();
            case "soldOut": return x.soldOut(a[0]);
            case "shop": return x.shop(a[0], a[1]);
            default: throw new IllegalArgumentException(name);
        }
    }
}
