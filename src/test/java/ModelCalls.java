/** The same call of both, by its name. */
final class ModelCalls {
    private ModelCalls() {
    }

    static int ofReal(NewsShips x, String name, int[] a) {
        switch (name) {
            case "row": return x.row(a[0], a[1], a[2]);
            case "set": return x.set(a[0], a[1], a[2]);
            case "copy": return x.copy(a[0], a[1], a[2], a[3], a[4]);
            case "drop": return x.drop(a[0]);
            case "feed": return x.feed(a[0]);
            case "league": return x.league();
            case "fault": return x.fault();
            case "happen": return x.happen(a[0]);
            case "sail": return x.sail(a[0], a[1]);
            case "days": return x.days(a[0]);
            case "undo": return x.undo();
            case "ship": return x.ship(a[0], a[1]);
            case "port": return x.port(a[0], a[1]);
            case "news": return x.news(a[0], a[1]);
            case "knows": return x.knows(a[0], a[1]);
            case "takes": return x.takes(a[0], a[1]);
            case "ahead": return x.ahead(a[0], a[1]);
            case "carried": return x.carried(a[0], a[1], a[2]);
            case "fame": return x.fame(a[0], a[1], a[2], a[3]);
            case "overtaken": return x.overtaken(a[0], a[1], a[2]);
            case "sure": return x.sure(a[0], a[1]);
            case "began": return x.began(a[0], a[1], a[2]);
            case "odds": return x.odds(a[0], a[1], a[2], a[3], a[4]);
            case "followed": return x.followed(a[0], a[1], a[2], a[3], a[4]);
            case "image": return x.image(a[0]);
            case "restore": return x.restore(a[0]);
            case "kind": return x.kind(a[0]);
            case "as": return x.as(a[0], a[1]);
            case "ask": return x.ask(a[0], a[1]);
            case "trace": return x.trace(a[0]);
            case "count": return x.count(a[0]);
            case "status": return x.status();
            default: return 0;
        }
    }

    static int ofModel(Model x, String name, int[] a) {
        switch (name) {
            case "row": return x.row(a[0], a[1], a[2]);
            case "set": return x.set(a[0], a[1], a[2]);
            case "copy": return x.copy(a[0], a[1], a[2], a[3], a[4]);
            case "drop": return x.drop(a[0]);
            case "feed": return x.feed(a[0]);
            case "league": return x.league();
            case "fault": return x.fault();
            case "happen": return x.happen(a[0]);
            case "sail": return x.sail(a[0], a[1]);
            case "days": return x.days(a[0]);
            case "undo": return x.undo();
            case "ship": return x.ship(a[0], a[1]);
            case "port": return x.port(a[0], a[1]);
            case "news": return x.news(a[0], a[1]);
            case "knows": return x.knows(a[0], a[1]);
            case "takes": return x.takes(a[0], a[1]);
            case "ahead": return x.ahead(a[0], a[1]);
            case "carried": return x.carried(a[0], a[1], a[2]);
            case "fame": return x.fame(a[0], a[1], a[2], a[3]);
            case "overtaken": return x.overtaken(a[0], a[1], a[2]);
            case "sure": return x.sure(a[0], a[1]);
            case "began": return x.began(a[0], a[1], a[2]);
            case "odds": return x.odds(a[0], a[1], a[2], a[3], a[4]);
            case "followed": return x.followed(a[0], a[1], a[2], a[3], a[4]);
            case "image": return x.image(a[0]);
            case "restore": return x.restore(a[0]);
            case "kind": return x.kind(a[0]);
            case "as": return x.as(a[0], a[1]);
            case "ask": return x.ask(a[0], a[1]);
            case "trace": return x.trace(a[0]);
            case "count": return x.count(a[0]);
            case "status": return x.status();
            default: return 0;
        }
    }
}
