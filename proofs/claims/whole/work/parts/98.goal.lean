theorem jz_exists : ∃ Rel, jz_Good Rel := ⟨jz_Rel, jz_good⟩
