/** Houses that several tests begin with. */
final class Houses {
    private Houses() { }

    /**
     * Members 0 to 2 and contracts 0 (good 0) and 1 (good 2), on the day 1; member 1 is out: its own account lost 30
     * with 3 lots of contract 0 bought of account 0 and had 12. It has clients 6 and 7, of which 6 has 4 lots of
     * contract 1 bought of account 8. Account 0 has 100 and the gains, 8 and 6 have 50 in money 1.
     */
    static Marginhouse withOneOut() {
        Marginhouse x = new Marginhouse();
        x.member(false);
        x.member(false);
        x.member(false);
        x.contract(0, 1, 60);
        x.contract(2, 0, 40);
        x.client(1);
        x.client(1);
        x.pay(0, 0, 100);
        x.pay(4, 0, 12);
        x.pay(8, 1, 50);
        x.pay(6, 1, 50);
        x.trade(4, 0, 0, 3, 70);
        x.trade(6, 8, 1, 4, 40);
        x.settle();
        return x;
    }
}
