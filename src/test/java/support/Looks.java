/** The calls that the digest is put together from. */
interface Looks {
    int count(int what);

    int setting(int setting);

    int cell(int cell, int what);

    int barOf(int place, int what);

    int pointing(int direction);

    int restsIn();

    int points(int cell, int steps);

    int ifBar(int cell, int direction, int strength);

    int bestBar(int cell, int direction, int strength);

    int leastTurns(int cell);

    double obedience();
}
