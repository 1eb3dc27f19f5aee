theorem inX3 : ∀ w ∈ wsX30, w ∈ lw_tbl := by decide +kernel
theorem inX5 : ∀ w ∈ wsX50, w ∈ lw_tbl := by decide +kernel
theorem inX0 : ∀ w ∈ wsX00, w ∈ lw_tbl := by decide +kernel
theorem inX2 : ∀ w ∈ wsX20, w ∈ lw_tbl := by decide +kernel
theorem inX4 : ∀ w ∈ wsX40, w ∈ lw_tbl := by decide +kernel
theorem wsL_law_in : ∀ w ∈ wsL_law, w ∈ lw_tbl := List.forall_mem_append.mpr ⟨List.forall_mem_append.mpr ⟨List.forall_mem_append.mpr ⟨List.forall_mem_append.mpr ⟨List.forall_mem_append.mpr ⟨List.forall_mem_append.mpr ⟨List.forall_mem_append.mpr ⟨inR1, List.forall_mem_append.mpr ⟨inR2, List.forall_mem_append.mpr ⟨inR3, List.forall_mem_append.mpr ⟨inR4, List.forall_mem_append.mpr ⟨inR5, List.forall_mem_append.mpr ⟨inR6, List.forall_mem_append.mpr ⟨inR7, List.forall_mem_append.mpr ⟨inR8, List.forall_mem_append.mpr ⟨inR9, List.forall_mem_append.mpr ⟨inR10, List.forall_mem_append.mpr ⟨inR11, List.forall_mem_append.mpr ⟨inR12, List.forall_mem_append.mpr ⟨inR13, List.forall_mem_append.mpr ⟨inR14, List.forall_mem_append.mpr ⟨inR15, inR16⟩⟩⟩⟩⟩⟩⟩⟩⟩⟩⟩⟩⟩⟩⟩, inX3⟩, inX5⟩, inX0⟩, inX2⟩, inX4⟩, fun _ h => absurd h List.not_mem_nil⟩
