/** What is to be done with two ways, each from a floor to a higher one. */
interface Ways {
    void of(int from, int to, int otherFrom, int otherTo);

    static void forAll(Ways ways) {
        for (int from = 0; from < 9; from++) {
            for (int to = from + 1; to <= 9; to++) {
                for (int otherFrom = 0; otherFrom < 9; otherFrom++) {
                    for (int otherTo = otherFrom + 1; otherTo <= 9; otherTo++) {
                        ways.of(from, to, otherFrom, otherTo);
                    }
                }
            }
        }
    }
}
