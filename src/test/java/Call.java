/** A call of one method, for tests that make the same checks about many of them. */
interface Call {
    int on(ThirdVotes x);
}
