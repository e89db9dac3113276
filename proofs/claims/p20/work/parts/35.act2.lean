theorem m_L_act (l : Launch) (hlf : l.stackTraces = false) (D : va_G) (C : Nat → ClassId) (a : Nat → Nat) (o r : Nat) (g : Nat → Nat) (N : Nat) (mn : Int32) (K P : Nat → Nat → Int32) (T : Nat) (v : Int32) (I : k_in N mn K T) : cu_GI l D C yL_act wsL_act { frames := 8, cells := 4, slots := 60, locals := 130 } [.ref (a 0), .ref o, .int v] (cu_cw C a (nI N) mn K P ++ cu_sm C o r g N mn K) cu_xT (fun (v : Int32) (u : Nat × Nat × (Nat → Nat) × (Nat → Nat → Int32)) => v = 1 ∧ k_in u.1 mn u.2.2.2 T) (fun u => cu_cw C a (nI u.1) mn u.2.2.2 P ++ cu_sm C o u.2.1 u.2.2.1 u.1 mn u.2.2.2) 4 60 := by
  by_cases h : N = 0
  · exact m_L_act0 l hlf D C a o r g N mn K P T v I h
  · exact m_L_act1 l hlf D C a o r g N mn K P T v I (by omega)
