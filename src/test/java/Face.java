/** The document's face, which the program (as a Chain) and the document's second reading both have. */
interface Face extends Watch.Readable {
    int transaction(int from, int to, int amount, int nonce);

    boolean submit(int i, int t);

    boolean begin();

    int deliver(int i);

    boolean disturb(int i, int how);

    boolean alter(int i, int which, long mask);

    int lie(int i, int v, int p, int t);

    boolean lieVote(int i, int b);

    int tick();

    boolean crash(int i);

    boolean restart(int i);
}
