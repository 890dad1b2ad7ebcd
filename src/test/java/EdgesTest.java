import java.io.IOException;

/**
 * Each sentence of the document that names a boundary case has a test of its own here: the terms
 * first, then the promises in their order. No line of these sections may be without a test.
 */
public final class EdgesTest {
    public static void main(String[] args) throws IOException {
        Checks checks = new Checks();
        Sentences sentences = new Sentences(checks);
        TermsEdges.hold(checks, sentences);
        TextTermsEdges.hold(checks, sentences);
        PartsEdges.hold(checks, sentences);
        SamplesEdges.hold(checks, sentences);
        TextsEdges.hold(checks, sentences);
        LooksEdges.hold(checks, sentences);
        WhatWouldBeEdges.hold(checks, sentences);
        sentences.dueAllQuoted();
        checks.end();
    }
}
