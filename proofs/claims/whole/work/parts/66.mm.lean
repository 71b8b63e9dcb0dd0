/-! the model: fit, shown, crowd, sung -/
section MM2
variable {h0 : Hp} {M : Nat} {v pa fl tx it sg lat hat nw os hgh pl asd lks : Nat → Int32} {pm ty ct wr im sm sy : Int32}
variable {p : PS} {h : Hp}
theorem cAh_step {S : Sh} {L : List Ln} {off : Nat → Nat} {line : Nat} {t : Int32} {i : Nat} : cAh S L off line t (i + 1) = cAh S L off line t i + (if (¬ i = line ∧ shownP (lnA L i) t = true) ∧ pBf S L off i line then 1 else 0) := rfl
theorem m_isAhead {st : Stt} (hv : encV v st) (hw : WfSt st) (hos : ∀ n, n < st.2.1.length → os n = nI (offC st.1 st.2.1 n)) {i j : Nat} (hi : i < st.2.1.length) (hj : j < st.2.1.length) (Q : Option Value → Hp → Prop) : WPm 163 [.ref M, .int (nI i), .int (nI j)] (mkM h0 M v pa pm fl tx ty ct wr it im sg sm lat hat sy nw os hgh pl asd lks) Q = Q (some (.int (bI (pBf st.1 st.2.1 (offC st.1 st.2.1) i j)))) (mkM h0 M v pa pm fl tx ty ct wr it im sg sm lat hat sy nw os hgh pl asd lks) := by
  sorry
end MM2
