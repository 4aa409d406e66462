theorem kCtx_swap0 (N T : va_W) : kCtx (N ++ T) (T ++ N) (fun w => w.drop T.length ++ w.take T.length) := by
  intro D cl A0 H hP hD
  refine ⟨va_P.app (kP_r hP) (kP_l hP), va_D.app (kD_r hD) (kD_l hD) (fun i j x y hi hj e => kD_x hD j i y x hj hi e.symm), fun H1 w1 hl hk hF hP1 hD1 => ?_⟩
  have hw : w1.take T.length ++ w1.drop T.length = w1 := List.take_append_drop _ _
  rw [← hw] at hP1 hD1
  have hD2 := hD1.weaken (B := A0) (fun _ q _ h => hF q.1 h)
  exact ⟨va_P.app (kP_r hP1) (kP_l hP1), va_D.app (kD_r hD2) (kD_l hD2) (fun i j x y hx hy e => kD_x hD2 j i y x hy hx e.symm)⟩
