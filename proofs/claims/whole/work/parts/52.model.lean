/-! pages with other lids -/
theorem pgr_lid {g : Nat → Int32} {L : List Sg} {li q : Nat} {ye br : Int32} (h : PGR g L li ye br) (h8 : L.length ≤ 8) : PGR (upd g 49 (nI q)) L q ye br := by
  obtain ⟨h1, h2, h3, h4, h5⟩ := h
  exact ⟨hs_upd h1 (by omega), by rw [upd_n (by omega), h2], upd_s, by rw [upd_n (by omega), h4], by rw [upd_n (by omega), h5]⟩
