/** A call of the face; a boolean counts 1 or 0. */
interface Call {
    long on(DemoTape tape);
}
