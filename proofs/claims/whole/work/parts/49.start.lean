theorem XH_start {g : XG} {H : Heap} (h : HA g 218 [] H) : XH g S0 H := h.2.2
theorem KX_start {g : XG} {s : State} (K : KA g s) : KX g s := by
  obtain ⟨-, h2, h3, h4, h5, h6, -⟩ := K
  exact ⟨h2, h3, h4.narrow (fun q hq => hq.1), h5.narrow (fun q hq => hq.1)⟩
