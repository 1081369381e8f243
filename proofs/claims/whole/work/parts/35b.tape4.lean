theorem RO_T {d d1 : Dt} {y y' : Sy} {x v : Int32} (hf : fM d d1) (h : MR (dI d1 160 (upd (d1.1 160) 17 0)) y') (hx : x = v) : RO d (dI (dI d1 160 (upd (d1.1 160) 17 0)) 160 (upd ((dI d1 160 (upd (d1.1 160) 17 0)).1 160) 7 0)) x (0, v, y') :=
  ⟨fM_dI (fM_dI hf (by decide) _) (by decide) _, by rw [dI_s]; rfl, fun _ => hx, MR_7 h 0⟩
