/-! the law's cases, run: rest and round, and short scripts -/
theorem yca13 : yok1 (yrun yT0 100000 yscr 20 zm_L_law [yw13] []) = true := by decide +kernel
theorem yca16 : yok1 (yrun yT0 100000 yscr 20 zm_L_law [yw16] []) = true := by decide +kernel
def yq0 : Option (List yV) := some []
def yv0 : yS := (18, [[(0, 0)]], yL0, [], [])
theorem yd0 : yok1 (yrun yT0 1000 yq0 20 zm_L_law [yv0] []) = true := by decide +kernel
def yq1 : Option (List yV) := some [.inl (1, 0)]
def yv1 : yS := (18, [[(0, 0)], yI32], yL0, [], [])
theorem yd1 : yok1 (yrun yT0 1000 yq1 20 zm_L_law [yv1] []) = true := by decide +kernel
def yq2 : Option (List yV) := some [.inl (1, 0), .inl (2, 0)]
def yv2 : yS := (18, [[(0, 0)], yI32, yI32], yL0, [], [])
theorem yd2 : yok1 (yrun yT0 1000 yq2 20 zm_L_law [yv2] []) = true := by decide +kernel
def yq3 : Option (List yV) := some [.inl (1, 0), .inl (2, 0), .inl (3, 0)]
def yv3 : yS := (18, [[(0, 0)], yI32, yI32, yI32], yL0, [], [])
theorem yd3 : yok1 (yrun yT0 1000 yq3 20 zm_L_law [yv3] []) = true := by decide +kernel
def yq4 : Option (List yV) := some [.inl (1, 0), .inl (2, 0), .inl (3, 0), .inl (4, 0)]
def yv4 : yS := (18, [[(0, 0)], yI32, yI32, yI32, yI32], yL0, [], [])
theorem yd4 : yok1 (yrun yT0 1000 yq4 20 zm_L_law [yv4] []) = true := by decide +kernel
theorem ysw_all : ∀ a ∈ ysw, yok1 (yrun yT0 100000 yscr 20 zm_L_law [a] []) = true := List.forall_mem_cons.mpr ⟨yca0, List.forall_mem_cons.mpr ⟨yca1, List.forall_mem_cons.mpr ⟨yca2, List.forall_mem_cons.mpr ⟨yca3, List.forall_mem_cons.mpr ⟨yca4, List.forall_mem_cons.mpr ⟨yca5, List.forall_mem_cons.mpr ⟨yca6, List.forall_mem_cons.mpr ⟨yca7, List.forall_mem_cons.mpr ⟨yca8, List.forall_mem_cons.mpr ⟨yca9, List.forall_mem_cons.mpr ⟨yca10, List.forall_mem_cons.mpr ⟨yca11, List.forall_mem_cons.mpr ⟨yca12, List.forall_mem_cons.mpr ⟨yca13, List.forall_mem_cons.mpr ⟨yca14, List.forall_mem_cons.mpr ⟨yca15, List.forall_mem_cons.mpr ⟨yca16, List.forall_mem_cons.mpr ⟨yca17, List.forall_mem_cons.mpr ⟨yca18, List.forall_mem_cons.mpr ⟨yca19, List.forall_mem_cons.mpr ⟨yca20, List.forall_mem_cons.mpr ⟨yca21, List.forall_mem_cons.mpr ⟨yca22, List.forall_mem_cons.mpr ⟨yca23, List.forall_mem_cons.mpr ⟨yca24, List.forall_mem_cons.mpr ⟨yca25, List.forall_mem_cons.mpr ⟨yca26, List.forall_mem_cons.mpr ⟨yca27, List.forall_mem_cons.mpr ⟨yca28, List.forall_mem_cons.mpr ⟨yca29, List.forall_mem_cons.mpr ⟨yca30, List.forall_mem_cons.mpr ⟨yca31, List.forall_mem_cons.mpr ⟨yca32, List.forall_mem_cons.mpr ⟨yca33, List.forall_mem_cons.mpr ⟨yca34, List.forall_mem_cons.mpr ⟨yca35, List.forall_mem_cons.mpr ⟨yca36, List.forall_mem_cons.mpr ⟨yca37, fun _ h => absurd h List.not_mem_nil⟩⟩⟩⟩⟩⟩⟩⟩⟩⟩⟩⟩⟩⟩⟩⟩⟩⟩⟩⟩⟩⟩⟩⟩⟩⟩⟩⟩⟩⟩⟩⟩⟩⟩⟩⟩⟩⟩
