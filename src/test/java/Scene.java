/** The states in which edges are looked at; each is made anew for every call that is tried in it. */
enum Scene {
    /** Nothing told at all. */
    EMPTY,
    /**
     * The items 0 to 2 (1 is out of season), the months 0 and 1 published, the contracts 0 and 1. Of
     * now there are quotes of the items 0 and 2, at the outlet 0, and a link of the item 0 there.
     */
    ORDINARY,
    /**
     * One place left of each: the items 0 to 10, the months 0 to 22, the contracts 0 to 8. Of now
     * there are quotes of the item 9, at every outlet, and of the item 10, at the outlet 2.
     */
    NEARLY_FULL,
    /** All places full: the items 0 to 11, the months 0 to 23, the contracts 0 to 9. */
    FULL;

    BasketryOffice make() {
        return switch (this) {
            case EMPTY -> new BasketryOffice();
            case ORDINARY -> ordinary();
            case NEARLY_FULL -> nearlyFull();
            case FULL -> full();
        };
    }

    private static BasketryOffice ordinary() {
        BasketryOffice x = new BasketryOffice();
        x.item(0, BasketryOffice.CARLI, 4095);
        x.item(1, BasketryOffice.DUTOT, 1);
        x.item(3, BasketryOffice.HARMONIC, 4095);
        x.spend(0, 0, 30);
        x.spend(1, 1, 10);
        x.spend(2, 3, 5);
        x.adopt();
        x.spend(0, 0, 20);
        x.quote(0, 0, 100, 100);
        x.quote(0, 1, 200, 100);
        x.quote(1, 0, 100, 100);
        x.quote(2, 0, 300, 100);
        x.publish();
        x.contract(1000, 0, 0, false);
        x.contract(1000, 1, 20, true);
        x.quote(0, 0, 120, 100);
        x.quote(0, 1, 900, 100);
        x.quote(2, 0, 310, 100);
        x.link(2, 0, 155, 50);
        x.publish();
        x.fix(0, 1, 0, 90);
        x.quote(0, 0, 130, 100);
        x.confirm(0, 0);
        x.quote(2, 0, 350, 100);
        x.link(0, 0, 140, 100);
        return x;
    }

    private static BasketryOffice nearlyFull() {
        BasketryOffice x = new BasketryOffice();
        for (int item = 0; item < 11; item++) {
            x.item(item % 4, item % 3, 4095);
            x.quote(item, item % 4, 100 + item, 100);
        }
        x.spend(0, 0, 70);
        x.spend(1, 2, 30);
        x.adopt();
        x.publish();
        for (int contract = 0; contract < 9; contract++) {
            x.contract(1000 + contract, contract % 4, contract * 5, contract % 2 == 0);
        }
        for (int month = 1; month < 23; month++) {
            x.quote(0, 0, 100 + month * month % 7, 100);
            x.publish();
        }
        for (int outlet = 0; outlet < 4; outlet++) {
            x.quote(9, outlet, 120, 100);
        }
        x.quote(10, 2, 130, 100);
        x.link(10, 1, 50, 100);
        x.fix(5, 0, 0, 111);
        return x;
    }

    private static BasketryOffice full() {
        BasketryOffice x = nearlyFull();
        x.item(3, BasketryOffice.HARMONIC, 4095);
        x.quote(11, 3, 400, 100);
        x.publish();
        x.contract(1009, 3, 500, false);
        return x;
    }
}
