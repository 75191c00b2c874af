def bd_Mo_draw_51 (kx : Int32 × Int32 × Int32 × Int32 × Int64 × Int32 × ((Nat → Int32)) × MD × MR → Option (Int32 × Int32 × Int64 × Int32 × ((Nat → Int32)) × MD × MR)) (rec : Int32 × Int32 × Int32 × Int32 × Int64 × Int32 × ((Nat → Int32)) × MD × MR → Option (Int32 × Int32 × Int64 × Int32 × ((Nat → Int32)) × MD × MR)) (z : Int32 × Int32 × Int32 × Int32 × Int64 × Int32 × ((Nat → Int32)) × MD × MR) : Option (Int32 × Int32 × Int64 × Int32 × ((Nat → Int32)) × MD × MR) :=
  (if z.2.2.2.2.2.2.2.1.2.1 ≤ z.2.2.1 then kx (z.1, z.2.1, z.2.2.1, z.2.2.2.1, z.2.2.2.2.1, z.2.2.2.2.2.1, z.2.2.2.2.2.2.1, z.2.2.2.2.2.2.2.1, z.2.2.2.2.2.2.2.2) else (if ((z.2.1 + z.2.2.1) < 0 ∨ 200 ≤ (z.2.1 + z.2.2.1).toNatClampNeg) then none else (if (z.2.2.1 < 0 ∨ 8 ≤ z.2.2.1.toNatClampNeg) then none else rec (z.1, z.2.1, z.2.2.1 + 1, z.2.2.2.1, z.2.2.2.2.1, z.2.2.2.2.2.1, z.2.2.2.2.2.2.1, (z.2.2.2.2.2.2.2.1.1, z.2.2.2.2.2.2.2.1.2.1, z.2.2.2.2.2.2.2.1.2.2.1, z.2.2.2.2.2.2.2.1.2.2.2.1, upd z.2.2.2.2.2.2.2.1.2.2.2.2.1 z.2.2.1.toNatClampNeg (z.2.2.2.2.2.2.2.2.2 (z.2.1 + z.2.2.1).toNatClampNeg), z.2.2.2.2.2.2.2.1.2.2.2.2.2.1, z.2.2.2.2.2.2.2.1.2.2.2.2.2.2.1, z.2.2.2.2.2.2.2.1.2.2.2.2.2.2.2.1, z.2.2.2.2.2.2.2.1.2.2.2.2.2.2.2.2.1, z.2.2.2.2.2.2.2.1.2.2.2.2.2.2.2.2.2.1, z.2.2.2.2.2.2.2.1.2.2.2.2.2.2.2.2.2.2), z.2.2.2.2.2.2.2.2))))
def bd_Mo_draw_98 (kx : Int32 × Int32 × Int32 × Int32 × Int64 × Int32 × ((Nat → Int32)) × MD × MR → Option (Int32 × Int32 × Int64 × Int32 × ((Nat → Int32)) × MD × MR)) (rec : Int32 × Int32 × Int32 × Int32 × Int64 × Int32 × ((Nat → Int32)) × MD × MR → Option (Int32 × Int32 × Int64 × Int32 × ((Nat → Int32)) × MD × MR)) (z : Int32 × Int32 × Int32 × Int32 × Int64 × Int32 × ((Nat → Int32)) × MD × MR) : Option (Int32 × Int32 × Int64 × Int32 × ((Nat → Int32)) × MD × MR) :=
  (if z.2.2.2.2.2.2.2.1.2.2.1 ≤ z.2.2.1 then kx (z.1, z.2.1, z.2.2.1, z.2.2.2.1, z.2.2.2.2.1, z.2.2.2.2.2.1, z.2.2.2.2.2.2.1, z.2.2.2.2.2.2.2.1, z.2.2.2.2.2.2.2.2) else (if (((z.2.1 + (1 : Int32)) + z.2.2.1) < 0 ∨ 200 ≤ ((z.2.1 + (1 : Int32)) + z.2.2.1).toNatClampNeg) then none else (if (z.2.2.1 < 0 ∨ 8 ≤ z.2.2.1.toNatClampNeg) then none else rec (z.1, z.2.1, z.2.2.1 + 1, z.2.2.2.1, z.2.2.2.2.1, z.2.2.2.2.2.1, z.2.2.2.2.2.2.1, (z.2.2.2.2.2.2.2.1.1, z.2.2.2.2.2.2.2.1.2.1, z.2.2.2.2.2.2.2.1.2.2.1, z.2.2.2.2.2.2.2.1.2.2.2.1, z.2.2.2.2.2.2.2.1.2.2.2.2.1, upd z.2.2.2.2.2.2.2.1.2.2.2.2.2.1 z.2.2.1.toNatClampNeg (z.2.2.2.2.2.2.2.2.2 ((z.2.1 + (1 : Int32)) + z.2.2.1).toNatClampNeg), z.2.2.2.2.2.2.2.1.2.2.2.2.2.2.1, z.2.2.2.2.2.2.2.1.2.2.2.2.2.2.2.1, z.2.2.2.2.2.2.2.1.2.2.2.2.2.2.2.2.1, z.2.2.2.2.2.2.2.1.2.2.2.2.2.2.2.2.2.1, z.2.2.2.2.2.2.2.1.2.2.2.2.2.2.2.2.2.2), z.2.2.2.2.2.2.2.2))))
def jn_Mo_draw_222 (kx : Int32 × Int32 × Int32 × Int32 × Int64 × Int32 × ((Nat → Int32)) × MD × MR → Option (Int32 × Int32 × Int64 × Int32 × ((Nat → Int32)) × MD × MR)) (rec : Int32 × Int32 × Int32 × Int32 × Int64 × Int32 × ((Nat → Int32)) × MD × MR → Option (Int32 × Int32 × Int64 × Int32 × ((Nat → Int32)) × MD × MR)) (z : Int32 × Int32 × Int32 × Int32 × Int32 × Int32 × Int64 × Int32 × ((Nat → Int32)) × MD × MR) : Option (Int32 × Int32 × Int64 × Int32 × ((Nat → Int32)) × MD × MR) :=
  (if (z.2.2.2.1 < 0 ∨ 24 ≤ z.2.2.2.1.toNatClampNeg) then none else (if ((z.2.1 + (4 : Int32)) < 0 ∨ 200 ≤ (z.2.1 + (4 : Int32)).toNatClampNeg) then none else (if z.2.2.2.2.2.2.2.2.2.2.2 (z.2.1 + (4 : Int32)).toNatClampNeg = 1 then (if (z.2.2.1 < 0 ∨ 24 ≤ z.2.2.1.toNatClampNeg) then none else rec (z.1, z.2.1 + 5, z.2.2.1 + 1, z.2.2.2.2.2.1, z.2.2.2.2.2.2.1, z.2.2.2.2.2.2.2.1, z.2.2.2.2.2.2.2.2.1, (z.2.2.2.2.2.2.2.2.2.1.1, z.2.2.2.2.2.2.2.2.2.1.2.1, z.2.2.2.2.2.2.2.2.2.1.2.2.1, z.2.2.2.2.2.2.2.2.2.1.2.2.2.1, z.2.2.2.2.2.2.2.2.2.1.2.2.2.2.1, z.2.2.2.2.2.2.2.2.2.1.2.2.2.2.2.1, z.2.2.2.2.2.2.2.2.2.1.2.2.2.2.2.2.1, z.2.2.2.2.2.2.2.2.2.1.2.2.2.2.2.2.2.1, z.2.2.2.2.2.2.2.2.2.1.2.2.2.2.2.2.2.2.1, upd z.2.2.2.2.2.2.2.2.2.1.2.2.2.2.2.2.2.2.2.1 z.2.2.2.1.toNatClampNeg (vp_nar .boolean z.2.2.2.2.1), upd z.2.2.2.2.2.2.2.2.2.1.2.2.2.2.2.2.2.2.2.2 z.2.2.1.toNatClampNeg (vp_nar .boolean (1))), z.2.2.2.2.2.2.2.2.2.2)) else (if (z.2.2.1 < 0 ∨ 24 ≤ z.2.2.1.toNatClampNeg) then none else rec (z.1, z.2.1 + 5, z.2.2.1 + 1, z.2.2.2.2.2.1, z.2.2.2.2.2.2.1, z.2.2.2.2.2.2.2.1, z.2.2.2.2.2.2.2.2.1, (z.2.2.2.2.2.2.2.2.2.1.1, z.2.2.2.2.2.2.2.2.2.1.2.1, z.2.2.2.2.2.2.2.2.2.1.2.2.1, z.2.2.2.2.2.2.2.2.2.1.2.2.2.1, z.2.2.2.2.2.2.2.2.2.1.2.2.2.2.1, z.2.2.2.2.2.2.2.2.2.1.2.2.2.2.2.1, z.2.2.2.2.2.2.2.2.2.1.2.2.2.2.2.2.1, z.2.2.2.2.2.2.2.2.2.1.2.2.2.2.2.2.2.1, z.2.2.2.2.2.2.2.2.2.1.2.2.2.2.2.2.2.2.1, upd z.2.2.2.2.2.2.2.2.2.1.2.2.2.2.2.2.2.2.2.1 z.2.2.2.1.toNatClampNeg (vp_nar .boolean z.2.2.2.2.1), upd z.2.2.2.2.2.2.2.2.2.1.2.2.2.2.2.2.2.2.2.2 z.2.2.1.toNatClampNeg (vp_nar .boolean (0))), z.2.2.2.2.2.2.2.2.2.2)))))
def bd_Mo_draw_152 (kx : Int32 × Int32 × Int32 × Int32 × Int64 × Int32 × ((Nat → Int32)) × MD × MR → Option (Int32 × Int32 × Int64 × Int32 × ((Nat → Int32)) × MD × MR)) (rec : Int32 × Int32 × Int32 × Int32 × Int64 × Int32 × ((Nat → Int32)) × MD × MR → Option (Int32 × Int32 × Int64 × Int32 × ((Nat → Int32)) × MD × MR)) (z : Int32 × Int32 × Int32 × Int32 × Int64 × Int32 × ((Nat → Int32)) × MD × MR) : Option (Int32 × Int32 × Int64 × Int32 × ((Nat → Int32)) × MD × MR) :=
  (if z.2.2.2.2.2.2.2.1.2.2.2.1 ≤ z.2.2.1 then kx (z.1, z.2.1, z.2.2.1, z.2.2.2.1, z.2.2.2.2.1, z.2.2.2.2.2.1, z.2.2.2.2.2.2.1, z.2.2.2.2.2.2.2.1, z.2.2.2.2.2.2.2.2) else (if (z.2.1 < 0 ∨ 200 ≤ z.2.1.toNatClampNeg) then none else (if (z.2.2.1 < 0 ∨ 24 ≤ z.2.2.1.toNatClampNeg) then none else (if ((z.2.1 + (1 : Int32)) < 0 ∨ 200 ≤ (z.2.1 + (1 : Int32)).toNatClampNeg) then none else (if (z.2.2.1 < 0 ∨ 24 ≤ z.2.2.1.toNatClampNeg) then none else (if ((z.2.1 + (2 : Int32)) < 0 ∨ 200 ≤ (z.2.1 + (2 : Int32)).toNatClampNeg) then none else (if (z.2.2.1 < 0 ∨ 24 ≤ z.2.2.1.toNatClampNeg) then none else (if ((z.2.1 + (3 : Int32)) < 0 ∨ 200 ≤ (z.2.1 + (3 : Int32)).toNatClampNeg) then none else (if z.2.2.2.2.2.2.2.2.2 (z.2.1 + (3 : Int32)).toNatClampNeg = 1 then (jn_Mo_draw_222 kx rec (z.1, z.2.1, z.2.2.1, z.2.2.1, 1, z.2.2.2.1, z.2.2.2.2.1, z.2.2.2.2.2.1, z.2.2.2.2.2.2.1, (z.2.2.2.2.2.2.2.1.1, z.2.2.2.2.2.2.2.1.2.1, z.2.2.2.2.2.2.2.1.2.2.1, z.2.2.2.2.2.2.2.1.2.2.2.1, z.2.2.2.2.2.2.2.1.2.2.2.2.1, z.2.2.2.2.2.2.2.1.2.2.2.2.2.1, upd z.2.2.2.2.2.2.2.1.2.2.2.2.2.2.1 z.2.2.1.toNatClampNeg (z.2.2.2.2.2.2.2.2.2 z.2.1.toNatClampNeg), upd z.2.2.2.2.2.2.2.1.2.2.2.2.2.2.2.1 z.2.2.1.toNatClampNeg (z.2.2.2.2.2.2.2.2.2 (z.2.1 + (1 : Int32)).toNatClampNeg), upd z.2.2.2.2.2.2.2.1.2.2.2.2.2.2.2.2.1 z.2.2.1.toNatClampNeg (z.2.2.2.2.2.2.2.2.2 (z.2.1 + (2 : Int32)).toNatClampNeg), z.2.2.2.2.2.2.2.1.2.2.2.2.2.2.2.2.2.1, z.2.2.2.2.2.2.2.1.2.2.2.2.2.2.2.2.2.2), z.2.2.2.2.2.2.2.2)) else (jn_Mo_draw_222 kx rec (z.1, z.2.1, z.2.2.1, z.2.2.1, 0, z.2.2.2.1, z.2.2.2.2.1, z.2.2.2.2.2.1, z.2.2.2.2.2.2.1, (z.2.2.2.2.2.2.2.1.1, z.2.2.2.2.2.2.2.1.2.1, z.2.2.2.2.2.2.2.1.2.2.1, z.2.2.2.2.2.2.2.1.2.2.2.1, z.2.2.2.2.2.2.2.1.2.2.2.2.1, z.2.2.2.2.2.2.2.1.2.2.2.2.2.1, upd z.2.2.2.2.2.2.2.1.2.2.2.2.2.2.1 z.2.2.1.toNatClampNeg (z.2.2.2.2.2.2.2.2.2 z.2.1.toNatClampNeg), upd z.2.2.2.2.2.2.2.1.2.2.2.2.2.2.2.1 z.2.2.1.toNatClampNeg (z.2.2.2.2.2.2.2.2.2 (z.2.1 + (1 : Int32)).toNatClampNeg), upd z.2.2.2.2.2.2.2.1.2.2.2.2.2.2.2.2.1 z.2.2.1.toNatClampNeg (z.2.2.2.2.2.2.2.2.2 (z.2.1 + (2 : Int32)).toNatClampNeg), z.2.2.2.2.2.2.2.1.2.2.2.2.2.2.2.2.2.1, z.2.2.2.2.2.2.2.1.2.2.2.2.2.2.2.2.2.2), z.2.2.2.2.2.2.2.2)))))))))))
def bd_Mo_draw_275 (kx : Int32 × Int32 × Int32 × Int32 × Int64 × Int32 × ((Nat → Int32)) × MD × MR → Option (Int32 × Int32 × Int64 × Int32 × ((Nat → Int32)) × MD × MR)) (rec : Int32 × Int32 × Int32 × Int32 × Int64 × Int32 × ((Nat → Int32)) × MD × MR → Option (Int32 × Int32 × Int64 × Int32 × ((Nat → Int32)) × MD × MR)) (z : Int32 × Int32 × Int32 × Int32 × Int64 × Int32 × ((Nat → Int32)) × MD × MR) : Option (Int32 × Int32 × Int64 × Int32 × ((Nat → Int32)) × MD × MR) :=
  (if z.2.2.2.2.2.2.2.1.1 ≤ z.2.2.1 then kx (z.1, z.2.1, z.2.2.1, z.2.2.2.1, z.2.2.2.2.1, z.2.2.2.2.2.1, z.2.2.2.2.2.2.1, z.2.2.2.2.2.2.2.1, z.2.2.2.2.2.2.2.2) else (if (z.2.2.1 < 0 ∨ 40 ≤ z.2.2.1.toNatClampNeg) then none else rec (z.1, z.2.1, z.2.2.1 + 1, z.2.2.2.1, z.2.2.2.2.1, z.2.2.2.2.2.1, upd z.2.2.2.2.2.2.1 z.2.2.1.toNatClampNeg (vp_nar .boolean (0)), z.2.2.2.2.2.2.2.1, z.2.2.2.2.2.2.2.2)))
def jn_Mo_draw_15 (z : Int32 × Int32 × Int32 × Int64 × Int32 × ((Nat → Int32)) × MD × MR) : Option (Int32 × Int32 × Int64 × Int32 × ((Nat → Int32)) × MD × MR) :=
  (if z.2.1 ≤ 0 then Option.bind (f_Mo_drawRow z.2.2.2.1 z.2.2.2.2.2.2.2 z.1) (fun q170 => (if ((0 : Int32) < 0 ∨ 200 ≤ (0 : Int32).toNatClampNeg) then none else (itn (bd_Mo_draw_51 (fun z177 => (if ((z177.2.1 + z177.2.2.2.2.2.2.2.1.2.1) < 0 ∨ 200 ≤ (z177.2.1 + z177.2.2.2.2.2.2.2.1.2.1).toNatClampNeg) then none else (itn (bd_Mo_draw_98 (fun z184 => (if ((z184.2.1 + (z184.2.2.2.2.2.2.2.1.2.2.1 + (1 : Int32))) < 0 ∨ 200 ≤ (z184.2.1 + (z184.2.2.2.2.2.2.2.1.2.2.1 + (1 : Int32))).toNatClampNeg) then none else (itn (bd_Mo_draw_152 (fun z213 => (itn (bd_Mo_draw_275 (fun z218 => some (z218.2.2.2.2.2.2.2.1.1, z218.2.2.2.1, z218.2.2.2.2.1, z218.2.2.2.2.2.1, z218.2.2.2.2.2.2.1, z218.2.2.2.2.2.2.2.1, z218.2.2.2.2.2.2.2.2))) 70 (z213.1, z213.2.1, 0, z213.2.2.2.1, z213.2.2.2.2.1, z213.2.2.2.2.2.1, z213.2.2.2.2.2.2.1, ((z213.2.2.2.2.2.2.2.1.2.1 + z213.2.2.2.2.2.2.2.1.2.2.1) + z213.2.2.2.2.2.2.2.1.2.2.2.1, z213.2.2.2.2.2.2.2.1.2.1, z213.2.2.2.2.2.2.2.1.2.2.1, z213.2.2.2.2.2.2.2.1.2.2.2.1, z213.2.2.2.2.2.2.2.1.2.2.2.2.1, z213.2.2.2.2.2.2.2.1.2.2.2.2.2.1, z213.2.2.2.2.2.2.2.1.2.2.2.2.2.2.1, z213.2.2.2.2.2.2.2.1.2.2.2.2.2.2.2.1, z213.2.2.2.2.2.2.2.1.2.2.2.2.2.2.2.2.1, z213.2.2.2.2.2.2.2.1.2.2.2.2.2.2.2.2.2.1, z213.2.2.2.2.2.2.2.1.2.2.2.2.2.2.2.2.2.2), z213.2.2.2.2.2.2.2.2)))) 70 (z184.1, (z184.2.1 + (z184.2.2.2.2.2.2.2.1.2.2.1 + (1 : Int32))) + 1, 0, z184.2.2.2.1, z184.2.2.2.2.1, z184.2.2.2.2.2.1, z184.2.2.2.2.2.2.1, (z184.2.2.2.2.2.2.2.1.1, z184.2.2.2.2.2.2.2.1.2.1, z184.2.2.2.2.2.2.2.1.2.2.1, z184.2.2.2.2.2.2.2.2.2 (z184.2.1 + (z184.2.2.2.2.2.2.2.1.2.2.1 + (1 : Int32))).toNatClampNeg, z184.2.2.2.2.2.2.2.1.2.2.2.2.1, z184.2.2.2.2.2.2.2.1.2.2.2.2.2.1, z184.2.2.2.2.2.2.2.1.2.2.2.2.2.2.1, z184.2.2.2.2.2.2.2.1.2.2.2.2.2.2.2.1, z184.2.2.2.2.2.2.2.1.2.2.2.2.2.2.2.2.1, z184.2.2.2.2.2.2.2.1.2.2.2.2.2.2.2.2.2.1, z184.2.2.2.2.2.2.2.1.2.2.2.2.2.2.2.2.2.2), z184.2.2.2.2.2.2.2.2))))) 70 (z177.1, z177.2.1 + z177.2.2.2.2.2.2.2.1.2.1, 0, z177.2.2.2.1, z177.2.2.2.2.1, z177.2.2.2.2.2.1, z177.2.2.2.2.2.2.1, (z177.2.2.2.2.2.2.2.1.1, z177.2.2.2.2.2.2.2.1.2.1, z177.2.2.2.2.2.2.2.2.2 (z177.2.1 + z177.2.2.2.2.2.2.2.1.2.1).toNatClampNeg, z177.2.2.2.2.2.2.2.1.2.2.2.1, z177.2.2.2.2.2.2.2.1.2.2.2.2.1, z177.2.2.2.2.2.2.2.1.2.2.2.2.2.1, z177.2.2.2.2.2.2.2.1.2.2.2.2.2.2.1, z177.2.2.2.2.2.2.2.1.2.2.2.2.2.2.2.1, z177.2.2.2.2.2.2.2.1.2.2.2.2.2.2.2.2.1, z177.2.2.2.2.2.2.2.1.2.2.2.2.2.2.2.2.2.1, z177.2.2.2.2.2.2.2.1.2.2.2.2.2.2.2.2.2.2), z177.2.2.2.2.2.2.2.2))))) 70 (z.1, 1, 0, z.2.1, q170.1, z.1, z.2.2.2.2.2.1, (z.2.2.2.2.2.2.1.1, q170.2.2 (0 : Int32).toNatClampNeg, z.2.2.2.2.2.2.1.2.2.1, z.2.2.2.2.2.2.1.2.2.2.1, z.2.2.2.2.2.2.1.2.2.2.2.1, z.2.2.2.2.2.2.1.2.2.2.2.2.1, z.2.2.2.2.2.2.1.2.2.2.2.2.2.1, z.2.2.2.2.2.2.1.2.2.2.2.2.2.2.1, z.2.2.2.2.2.2.1.2.2.2.2.2.2.2.2.1, z.2.2.2.2.2.2.1.2.2.2.2.2.2.2.2.2.1, z.2.2.2.2.2.2.1.2.2.2.2.2.2.2.2.2.2), q170.2)))) else some (0, z.2.1, z.2.2.2.1, z.2.2.2.2.1, z.2.2.2.2.2.1, z.2.2.2.2.2.2.1, z.2.2.2.2.2.2.2))
def f_Mo_draw (mk : Int32) (mu : Int64) (mz : Int32) (mo : (Nat → Int32)) (md : MD) (mr : MR) (p0 : Int32) : Option (Int32 × Int32 × Int64 × Int32 × ((Nat → Int32)) × MD × MR) :=
  Option.bind (f_Mo_in p0 (0) (5)) (fun q169 => (if q169 = 0 then (jn_Mo_draw_15 (p0, 1, mk, mu, mz, mo, md, mr)) else (jn_Mo_draw_15 (p0, 0, mk, mu, mz, mo, md, mr))))
abbrev rm_Mo_draw : Room := { frames := 2, cells := 0, slots := 0, locals := 46 }
theorem hd_Mo_draw : y_Mo_draw.cls ≠ "java/lang/invoke/MethodHandle" ∧ y_Mo_draw.cls ≠ "java/lang/invoke/VarHandle" ∧ (parseMethodDescriptor y_Mo_draw.desc).map (fun d => d.parameters.length) = some 1 := by decide +kernel
set_option maxHeartbeats 4000000 in
set_option maxRecDepth 100000 in
theorem vl_Mo_draw_51_M {l : Launch} {E : State → Heap → Prop} {D : va_G} {A : Nat → Prop} {cI cZ cJ : ClassId} (hE : stb A E) {ad : Nat → Nat} {mw : Int32} {mp : MP} {rest : va_W} {p : Program} {e : Env} {sg : State} {m : MethodId} {args : Array Value} {below : List Frame} {meth : Method} {c : Code} (C : cx p sg m args meth c D clsA (TY cI cZ cJ) A GG R_Mo b_Mo_draw 4) (hr : meth.sig.returnType = (some .int)) (hX : E sg sg.heap) {q : Int32 × Int32 × Int64 × Int32 × ((Nat → Int32)) × MD × MR} {kx : Int32 × Int32 × Int32 × Int32 × Int64 × Int32 × ((Nat → Int32)) × MD × MR → Option (Int32 × Int32 × Int64 × Int32 × ((Nat → Int32)) × MD × MR)} (K : ∀ z : Int32 × Int32 × Int32 × Int32 × Int64 × Int32 × ((Nat → Int32)) × MD × MR, kx z = some q → vv p l e rm_Mo_draw sg m args below meth c D clsA A 4 0 0 (MQ below (qcI D clsA A (some (.int q.1)) (WM ad cI cZ q.2.1 q.2.2.1 q.2.2.2.1 mw q.2.2.2.2.1 q.2.2.2.2.2.1 q.2.2.2.2.2.2 mp rest)) args sg rm_Mo_draw.cells rm_Mo_draw.slots A) 79 [(0, .ref (ad 11)), (1, .int z.1), (2, .int z.2.1), (3, .int z.2.2.1)] [] (WM ad cI cZ z.2.2.2.1 z.2.2.2.2.1 z.2.2.2.2.2.1 mw z.2.2.2.2.2.2.1 z.2.2.2.2.2.2.2.1 z.2.2.2.2.2.2.2.2 mp rest)) :
    ∀ (n : Nat) (z : Int32 × Int32 × Int32 × Int32 × Int64 × Int32 × ((Nat → Int32)) × MD × MR), itn (bd_Mo_draw_51 kx) n z = some q → vv p l e rm_Mo_draw sg m args below meth c D clsA A 4 0 0 (MQ below (qcI D clsA A (some (.int q.1)) (WM ad cI cZ q.2.1 q.2.2.1 q.2.2.2.1 mw q.2.2.2.2.1 q.2.2.2.2.2.1 q.2.2.2.2.2.2 mp rest)) args sg rm_Mo_draw.cells rm_Mo_draw.slots A) 51 [(0, .ref (ad 11)), (1, .int z.1), (2, .int z.2.1), (3, .int z.2.2.1)] [] (WM ad cI cZ z.2.2.2.1 z.2.2.2.2.1 z.2.2.2.2.2.1 mw z.2.2.2.2.2.2.1 z.2.2.2.2.2.2.2.1 z.2.2.2.2.2.2.2.2 mp rest) := by
  have _ := hE
  intro n
  induction n with
  | zero => intro z h; cases h
  | succ n ih =>
    intro z h
    obtain ⟨zv0, zv1, zv2, zv3, zv4, zv5, zv6, zv7, zv8⟩ := z
    replace h : bd_Mo_draw_51 kx (itn (bd_Mo_draw_51 kx) n) (zv0, zv1, zv2, zv3, zv4, zv5, zv6, zv7, zv8) = some q := h
    unfold bd_Mo_draw_51 at h
    (try dsimp only at h)
    show vv p l e rm_Mo_draw sg m args below meth c D clsA A 4 0 0 (MQ below (qcI D clsA A (some (.int q.1)) (WM ad cI cZ q.2.1 q.2.2.1 q.2.2.2.1 mw q.2.2.2.2.1 q.2.2.2.2.2.1 q.2.2.2.2.2.2 mp rest)) args sg rm_Mo_draw.cells rm_Mo_draw.slots A) 51 [(0, .ref (ad 11)), (1, .int zv0), (2, .int zv1), (3, .int zv2)] [] (WM ad cI cZ zv3 zv4 zv5 mw zv6 zv7 zv8 mp rest)
    refine r_iload_n (pc := 51) C d_Mo_draw_51 rfl 3 rfl ?_
    refine r_aload_n (pc := 52) C d_Mo_draw_52 rfl 0 rfl ?_
    refine r_get (pc := 53) (v := .int zv7.2.1) C hin_Mo 11 rfl rfl 6 (by decide) mm_16 rfl rfl d_Mo_draw_53 ?_
    refine r_icmp_ge (pc := 56) (tgt := 79) C d_Mo_draw_56 (by decide) (fun c176 => ?_) (fun c176 => ?_)
    · replace h := ip c176 h
      refine r_loc (lv' := [(0, .ref (ad 11)), (1, .int zv0), (2, .int zv1), (3, .int zv2)]) [0, 1, 2, 3] rfl ?_
      exact K (zv0, zv1, zv2, zv3, zv4, zv5, zv6, zv7, zv8) h
    · replace h := iN c176 h
      refine r_aload_n (pc := 59) C d_Mo_draw_59 rfl 0 rfl ?_
      refine r_get (pc := 60) (v := .ref (ad 9)) C hin_Mo 11 rfl rfl 7 (by decide) mm_17 rfl rfl d_Mo_draw_60 ?_
      refine r_iload_n (pc := 63) C d_Mo_draw_63 rfl 3 rfl ?_
      refine r_aload_n (pc := 64) C d_Mo_draw_64 rfl 0 rfl ?_
      refine r_get (pc := 65) (v := .ref (ad 2)) C hin_Mo 11 rfl rfl 17 (by decide) mm_6 rfl rfl d_Mo_draw_65 ?_
      refine r_iload_n (pc := 68) C d_Mo_draw_68 rfl 2 rfl ?_
      refine r_iload_n (pc := 69) C d_Mo_draw_69 rfl 3 rfl ?_
      refine r_iadd (pc := 70) C d_Mo_draw_70 ?_
      obtain ⟨hi175, h⟩ := ign h
      refine r_iald (pc := 71) C 2 0 rfl rfl hi175 d_Mo_draw_71 ?_
      obtain ⟨hi174, h⟩ := ign h
      refine r_iast (pc := 72) (ws' := WM ad cI cZ zv3 zv4 zv5 mw zv6 (zv7.1, zv7.2.1, zv7.2.2.1, zv7.2.2.2.1, upd zv7.2.2.2.2.1 zv2.toNatClampNeg (zv8.2 (zv1 + zv2).toNatClampNeg), zv7.2.2.2.2.2.1, zv7.2.2.2.2.2.2.1, zv7.2.2.2.2.2.2.2.1, zv7.2.2.2.2.2.2.2.2.1, zv7.2.2.2.2.2.2.2.2.2.1, zv7.2.2.2.2.2.2.2.2.2.2) zv8 mp rest) C 9 0 rfl rfl hi174 rfl d_Mo_draw_72 ?_
      refine r_iincK (pc := 73) (w0 := 1) (lv' := [(3, .int (zv2 + 1)), (0, .ref (ad 11)), (1, .int zv0), (2, .int zv1)]) C d_Mo_draw_73 (by decide) 3 rfl (by decide) rfl ?_
      refine r_goto (pc := 76) (tgt := 51) C d_Mo_draw_76 (by decide) ?_
      refine r_loc (lv' := [(0, .ref (ad 11)), (1, .int zv0), (2, .int zv1), (3, .int (zv2 + 1))]) [1, 2, 3, 0] rfl ?_
      exact ih (zv0, zv1, zv2 + 1, zv3, zv4, zv5, zv6, (zv7.1, zv7.2.1, zv7.2.2.1, zv7.2.2.2.1, upd zv7.2.2.2.2.1 zv2.toNatClampNeg (zv8.2 (zv1 + zv2).toNatClampNeg), zv7.2.2.2.2.2.1, zv7.2.2.2.2.2.2.1, zv7.2.2.2.2.2.2.2.1, zv7.2.2.2.2.2.2.2.2.1, zv7.2.2.2.2.2.2.2.2.2.1, zv7.2.2.2.2.2.2.2.2.2.2), zv8) h
set_option maxHeartbeats 4000000 in
set_option maxRecDepth 100000 in
theorem vl_Mo_draw_98_M {l : Launch} {E : State → Heap → Prop} {D : va_G} {A : Nat → Prop} {cI cZ cJ : ClassId} (hE : stb A E) {ad : Nat → Nat} {mw : Int32} {mp : MP} {rest : va_W} {p : Program} {e : Env} {sg : State} {m : MethodId} {args : Array Value} {below : List Frame} {meth : Method} {c : Code} (C : cx p sg m args meth c D clsA (TY cI cZ cJ) A GG R_Mo b_Mo_draw 4) (hr : meth.sig.returnType = (some .int)) (hX : E sg sg.heap) {q : Int32 × Int32 × Int64 × Int32 × ((Nat → Int32)) × MD × MR} {kx : Int32 × Int32 × Int32 × Int32 × Int64 × Int32 × ((Nat → Int32)) × MD × MR → Option (Int32 × Int32 × Int64 × Int32 × ((Nat → Int32)) × MD × MR)} (K : ∀ z : Int32 × Int32 × Int32 × Int32 × Int64 × Int32 × ((Nat → Int32)) × MD × MR, kx z = some q → vv p l e rm_Mo_draw sg m args below meth c D clsA A 4 0 0 (MQ below (qcI D clsA A (some (.int q.1)) (WM ad cI cZ q.2.1 q.2.2.1 q.2.2.2.1 mw q.2.2.2.2.1 q.2.2.2.2.2.1 q.2.2.2.2.2.2 mp rest)) args sg rm_Mo_draw.cells rm_Mo_draw.slots A) 128 [(0, .ref (ad 11)), (1, .int z.1), (2, .int z.2.1), (3, .int z.2.2.1)] [] (WM ad cI cZ z.2.2.2.1 z.2.2.2.2.1 z.2.2.2.2.2.1 mw z.2.2.2.2.2.2.1 z.2.2.2.2.2.2.2.1 z.2.2.2.2.2.2.2.2 mp rest)) :
    ∀ (n : Nat) (z : Int32 × Int32 × Int32 × Int32 × Int64 × Int32 × ((Nat → Int32)) × MD × MR), itn (bd_Mo_draw_98 kx) n z = some q → vv p l e rm_Mo_draw sg m args below meth c D clsA A 4 0 0 (MQ below (qcI D clsA A (some (.int q.1)) (WM ad cI cZ q.2.1 q.2.2.1 q.2.2.2.1 mw q.2.2.2.2.1 q.2.2.2.2.2.1 q.2.2.2.2.2.2 mp rest)) args sg rm_Mo_draw.cells rm_Mo_draw.slots A) 98 [(0, .ref (ad 11)), (1, .int z.1), (2, .int z.2.1), (3, .int z.2.2.1)] [] (WM ad cI cZ z.2.2.2.1 z.2.2.2.2.1 z.2.2.2.2.2.1 mw z.2.2.2.2.2.2.1 z.2.2.2.2.2.2.2.1 z.2.2.2.2.2.2.2.2 mp rest) := by
  have _ := hE
  intro n
  induction n with
  | zero => intro z h; cases h
  | succ n ih =>
    intro z h
    obtain ⟨zv0, zv1, zv2, zv3, zv4, zv5, zv6, zv7, zv8⟩ := z
    replace h : bd_Mo_draw_98 kx (itn (bd_Mo_draw_98 kx) n) (zv0, zv1, zv2, zv3, zv4, zv5, zv6, zv7, zv8) = some q := h
    unfold bd_Mo_draw_98 at h
    (try dsimp only at h)
    show vv p l e rm_Mo_draw sg m args below meth c D clsA A 4 0 0 (MQ below (qcI D clsA A (some (.int q.1)) (WM ad cI cZ q.2.1 q.2.2.1 q.2.2.2.1 mw q.2.2.2.2.1 q.2.2.2.2.2.1 q.2.2.2.2.2.2 mp rest)) args sg rm_Mo_draw.cells rm_Mo_draw.slots A) 98 [(0, .ref (ad 11)), (1, .int zv0), (2, .int zv1), (3, .int zv2)] [] (WM ad cI cZ zv3 zv4 zv5 mw zv6 zv7 zv8 mp rest)
    refine r_iload_n (pc := 98) C d_Mo_draw_98 rfl 3 rfl ?_
    refine r_aload_n (pc := 99) C d_Mo_draw_99 rfl 0 rfl ?_
    refine r_get (pc := 100) (v := .int zv7.2.2.1) C hin_Mo 11 rfl rfl 8 (by decide) mm_18 rfl rfl d_Mo_draw_100 ?_
    refine r_icmp_ge (pc := 103) (tgt := 128) C d_Mo_draw_103 (by decide) (fun c183 => ?_) (fun c183 => ?_)
    · replace h := ip c183 h
      refine r_loc (lv' := [(0, .ref (ad 11)), (1, .int zv0), (2, .int zv1), (3, .int zv2)]) [0, 1, 2, 3] rfl ?_
      exact K (zv0, zv1, zv2, zv3, zv4, zv5, zv6, zv7, zv8) h
    · replace h := iN c183 h
      refine r_aload_n (pc := 106) C d_Mo_draw_106 rfl 0 rfl ?_
      refine r_get (pc := 107) (v := .ref (ad 8)) C hin_Mo 11 rfl rfl 9 (by decide) mm_19 rfl rfl d_Mo_draw_107 ?_
      refine r_iload_n (pc := 110) C d_Mo_draw_110 rfl 3 rfl ?_
      refine r_aload_n (pc := 111) C d_Mo_draw_111 rfl 0 rfl ?_
      refine r_get (pc := 112) (v := .ref (ad 2)) C hin_Mo 11 rfl rfl 17 (by decide) mm_6 rfl rfl d_Mo_draw_112 ?_
      refine r_iload_n (pc := 115) C d_Mo_draw_115 rfl 2 rfl ?_
      refine r_iconst (pc := 116) (v := 1) C d_Mo_draw_116 (by decide) ?_
      refine r_iadd (pc := 117) C d_Mo_draw_117 ?_
      refine r_iload_n (pc := 118) C d_Mo_draw_118 rfl 3 rfl ?_
      refine r_iadd (pc := 119) C d_Mo_draw_119 ?_
      obtain ⟨hi182, h⟩ := ign h
      refine r_iald (pc := 120) C 2 0 rfl rfl hi182 d_Mo_draw_120 ?_
      obtain ⟨hi181, h⟩ := ign h
      refine r_iast (pc := 121) (ws' := WM ad cI cZ zv3 zv4 zv5 mw zv6 (zv7.1, zv7.2.1, zv7.2.2.1, zv7.2.2.2.1, zv7.2.2.2.2.1, upd zv7.2.2.2.2.2.1 zv2.toNatClampNeg (zv8.2 ((zv1 + (1 : Int32)) + zv2).toNatClampNeg), zv7.2.2.2.2.2.2.1, zv7.2.2.2.2.2.2.2.1, zv7.2.2.2.2.2.2.2.2.1, zv7.2.2.2.2.2.2.2.2.2.1, zv7.2.2.2.2.2.2.2.2.2.2) zv8 mp rest) C 8 0 rfl rfl hi181 rfl d_Mo_draw_121 ?_
      refine r_iincK (pc := 122) (w0 := 1) (lv' := [(3, .int (zv2 + 1)), (0, .ref (ad 11)), (1, .int zv0), (2, .int zv1)]) C d_Mo_draw_122 (by decide) 3 rfl (by decide) rfl ?_
      refine r_goto (pc := 125) (tgt := 98) C d_Mo_draw_125 (by decide) ?_
      refine r_loc (lv' := [(0, .ref (ad 11)), (1, .int zv0), (2, .int zv1), (3, .int (zv2 + 1))]) [1, 2, 3, 0] rfl ?_
      exact ih (zv0, zv1, zv2 + 1, zv3, zv4, zv5, zv6, (zv7.1, zv7.2.1, zv7.2.2.1, zv7.2.2.2.1, zv7.2.2.2.2.1, upd zv7.2.2.2.2.2.1 zv2.toNatClampNeg (zv8.2 ((zv1 + (1 : Int32)) + zv2).toNatClampNeg), zv7.2.2.2.2.2.2.1, zv7.2.2.2.2.2.2.2.1, zv7.2.2.2.2.2.2.2.2.1, zv7.2.2.2.2.2.2.2.2.2.1, zv7.2.2.2.2.2.2.2.2.2.2), zv8) h
set_option maxHeartbeats 4000000 in
set_option maxRecDepth 100000 in
theorem vj_Mo_draw_222_M {l : Launch} {E : State → Heap → Prop} {D : va_G} {A : Nat → Prop} {cI cZ cJ : ClassId} (hE : stb A E) {ad : Nat → Nat} {mw : Int32} {mp : MP} {rest : va_W} {p : Program} {e : Env} {sg : State} {m : MethodId} {args : Array Value} {below : List Frame} {meth : Method} {c : Code} (C : cx p sg m args meth c D clsA (TY cI cZ cJ) A GG R_Mo b_Mo_draw 4) (hr : meth.sig.returnType = (some .int)) (hX : E sg sg.heap) {q : Int32 × Int32 × Int64 × Int32 × ((Nat → Int32)) × MD × MR} {kx rec : Int32 × Int32 × Int32 × Int32 × Int64 × Int32 × ((Nat → Int32)) × MD × MR → Option (Int32 × Int32 × Int64 × Int32 × ((Nat → Int32)) × MD × MR)} (K : ∀ z : Int32 × Int32 × Int32 × Int32 × Int64 × Int32 × ((Nat → Int32)) × MD × MR, kx z = some q → vv p l e rm_Mo_draw sg m args below meth c D clsA A 4 0 0 (MQ below (qcI D clsA A (some (.int q.1)) (WM ad cI cZ q.2.1 q.2.2.1 q.2.2.2.1 mw q.2.2.2.2.1 q.2.2.2.2.2.1 q.2.2.2.2.2.2 mp rest)) args sg rm_Mo_draw.cells rm_Mo_draw.slots A) 255 [(0, .ref (ad 11)), (1, .int z.1), (2, .int z.2.1), (3, .int z.2.2.1)] [] (WM ad cI cZ z.2.2.2.1 z.2.2.2.2.1 z.2.2.2.2.2.1 mw z.2.2.2.2.2.2.1 z.2.2.2.2.2.2.2.1 z.2.2.2.2.2.2.2.2 mp rest)) (ih : ∀ z : Int32 × Int32 × Int32 × Int32 × Int64 × Int32 × ((Nat → Int32)) × MD × MR, rec z = some q → vv p l e rm_Mo_draw sg m args below meth c D clsA A 4 0 0 (MQ below (qcI D clsA A (some (.int q.1)) (WM ad cI cZ q.2.1 q.2.2.1 q.2.2.2.1 mw q.2.2.2.2.1 q.2.2.2.2.2.1 q.2.2.2.2.2.2 mp rest)) args sg rm_Mo_draw.cells rm_Mo_draw.slots A) 152 [(0, .ref (ad 11)), (1, .int z.1), (2, .int z.2.1), (3, .int z.2.2.1)] [] (WM ad cI cZ z.2.2.2.1 z.2.2.2.2.1 z.2.2.2.2.2.1 mw z.2.2.2.2.2.2.1 z.2.2.2.2.2.2.2.1 z.2.2.2.2.2.2.2.2 mp rest)) :
    ∀ z : Int32 × Int32 × Int32 × Int32 × Int32 × Int32 × Int64 × Int32 × ((Nat → Int32)) × MD × MR, jn_Mo_draw_222 kx rec z = some q → vv p l e rm_Mo_draw sg m args below meth c D clsA A 4 0 0 (MQ below (qcI D clsA A (some (.int q.1)) (WM ad cI cZ q.2.1 q.2.2.1 q.2.2.2.1 mw q.2.2.2.2.1 q.2.2.2.2.2.1 q.2.2.2.2.2.2 mp rest)) args sg rm_Mo_draw.cells rm_Mo_draw.slots A) 222 [(0, .ref (ad 11)), (1, .int z.1), (2, .int z.2.1), (3, .int z.2.2.1)] [.int z.2.2.2.2.1, .int z.2.2.2.1, .ref (ad 4)] (WM ad cI cZ z.2.2.2.2.2.1 z.2.2.2.2.2.2.1 z.2.2.2.2.2.2.2.1 mw z.2.2.2.2.2.2.2.2.1 z.2.2.2.2.2.2.2.2.2.1 z.2.2.2.2.2.2.2.2.2.2 mp rest) := by
  have _ := hE
  intro z h
  obtain ⟨zv0, zv1, zv2, zv3, zv4, zv5, zv6, zv7, zv8, zv9, zv10⟩ := z
  unfold jn_Mo_draw_222 at h
  (try dsimp only at h)
  show vv p l e rm_Mo_draw sg m args below meth c D clsA A 4 0 0 (MQ below (qcI D clsA A (some (.int q.1)) (WM ad cI cZ q.2.1 q.2.2.1 q.2.2.2.1 mw q.2.2.2.2.1 q.2.2.2.2.2.1 q.2.2.2.2.2.2 mp rest)) args sg rm_Mo_draw.cells rm_Mo_draw.slots A) 222 [(0, .ref (ad 11)), (1, .int zv0), (2, .int zv1), (3, .int zv2)] [.int zv4, .int zv3, .ref (ad 4)] (WM ad cI cZ zv5 zv6 zv7 mw zv8 zv9 zv10 mp rest)
  obtain ⟨hi194, h⟩ := ign h
  refine r_zast (pc := 222) (ws' := WM ad cI cZ zv5 zv6 zv7 mw zv8 (zv9.1, zv9.2.1, zv9.2.2.1, zv9.2.2.2.1, zv9.2.2.2.2.1, zv9.2.2.2.2.2.1, zv9.2.2.2.2.2.2.1, zv9.2.2.2.2.2.2.2.1, zv9.2.2.2.2.2.2.2.2.1, upd zv9.2.2.2.2.2.2.2.2.2.1 zv3.toNatClampNeg (vp_nar .boolean zv4), zv9.2.2.2.2.2.2.2.2.2.2) zv10 mp rest) C 4 1 rfl rfl hi194 rfl d_Mo_draw_222 ?_
  refine r_aload_n (pc := 223) C d_Mo_draw_223 rfl 0 rfl ?_
  refine r_get (pc := 224) (v := .ref (ad 3)) C hin_Mo 11 rfl rfl 15 (by decide) mm_25 rfl rfl d_Mo_draw_224 ?_
  refine r_iload_n (pc := 227) C d_Mo_draw_227 rfl 3 rfl ?_
  refine r_aload_n (pc := 228) C d_Mo_draw_228 rfl 0 rfl ?_
  refine r_get (pc := 229) (v := .ref (ad 2)) C hin_Mo 11 rfl rfl 17 (by decide) mm_6 rfl rfl d_Mo_draw_229 ?_
  refine r_iload_n (pc := 232) C d_Mo_draw_232 rfl 2 rfl ?_
  refine r_iconst (pc := 233) (v := 4) C d_Mo_draw_233 (by decide) ?_
  refine r_iadd (pc := 234) C d_Mo_draw_234 ?_
  obtain ⟨hi193, h⟩ := ign h
  refine r_iald (pc := 235) C 2 0 rfl rfl hi193 d_Mo_draw_235 ?_
  refine r_iconst (pc := 236) (v := 1) C d_Mo_draw_236 (by decide) ?_
  refine r_icmp_ne (pc := 237) (tgt := 244) C d_Mo_draw_237 (by decide) (fun c192 => ?_) (fun c192 => ?_)
  · replace h := iN c192 h
    refine r_iconst (pc := 244) (v := 0) C d_Mo_draw_244 (by decide) ?_
    obtain ⟨hi190, h⟩ := ign h
    refine r_zast (pc := 245) (ws' := WM ad cI cZ zv5 zv6 zv7 mw zv8 (zv9.1, zv9.2.1, zv9.2.2.1, zv9.2.2.2.1, zv9.2.2.2.2.1, zv9.2.2.2.2.2.1, zv9.2.2.2.2.2.2.1, zv9.2.2.2.2.2.2.2.1, zv9.2.2.2.2.2.2.2.2.1, upd zv9.2.2.2.2.2.2.2.2.2.1 zv3.toNatClampNeg (vp_nar .boolean zv4), upd zv9.2.2.2.2.2.2.2.2.2.2 zv2.toNatClampNeg (vp_nar .boolean (0))) zv10 mp rest) C 3 1 rfl rfl hi190 rfl d_Mo_draw_245 ?_
    refine r_iincK (pc := 246) (w0 := 5) (lv' := [(2, .int (zv1 + 5)), (0, .ref (ad 11)), (1, .int zv0), (3, .int zv2)]) C d_Mo_draw_246 (by decide) 2 rfl (by decide) rfl ?_
    refine r_iincK (pc := 249) (w0 := 1) (lv' := [(3, .int (zv2 + 1)), (2, .int (zv1 + 5)), (0, .ref (ad 11)), (1, .int zv0)]) C d_Mo_draw_249 (by decide) 3 rfl (by decide) rfl ?_
    refine r_goto (pc := 252) (tgt := 152) C d_Mo_draw_252 (by decide) ?_
    refine r_loc (lv' := [(0, .ref (ad 11)), (1, .int zv0), (2, .int (zv1 + 5)), (3, .int (zv2 + 1))]) [2, 3, 1, 0] rfl ?_
    exact ih (zv0, zv1 + 5, zv2 + 1, zv5, zv6, zv7, zv8, (zv9.1, zv9.2.1, zv9.2.2.1, zv9.2.2.2.1, zv9.2.2.2.2.1, zv9.2.2.2.2.2.1, zv9.2.2.2.2.2.2.1, zv9.2.2.2.2.2.2.2.1, zv9.2.2.2.2.2.2.2.2.1, upd zv9.2.2.2.2.2.2.2.2.2.1 zv3.toNatClampNeg (vp_nar .boolean zv4), upd zv9.2.2.2.2.2.2.2.2.2.2 zv2.toNatClampNeg (vp_nar .boolean (0))), zv10) h
  · replace h := ip c192 h
    refine r_iconst (pc := 240) (v := 1) C d_Mo_draw_240 (by decide) ?_
    refine r_goto (pc := 241) (tgt := 245) C d_Mo_draw_241 (by decide) ?_
    obtain ⟨hi191, h⟩ := ign h
    refine r_zast (pc := 245) (ws' := WM ad cI cZ zv5 zv6 zv7 mw zv8 (zv9.1, zv9.2.1, zv9.2.2.1, zv9.2.2.2.1, zv9.2.2.2.2.1, zv9.2.2.2.2.2.1, zv9.2.2.2.2.2.2.1, zv9.2.2.2.2.2.2.2.1, zv9.2.2.2.2.2.2.2.2.1, upd zv9.2.2.2.2.2.2.2.2.2.1 zv3.toNatClampNeg (vp_nar .boolean zv4), upd zv9.2.2.2.2.2.2.2.2.2.2 zv2.toNatClampNeg (vp_nar .boolean (1))) zv10 mp rest) C 3 1 rfl rfl hi191 rfl d_Mo_draw_245 ?_
    refine r_iincK (pc := 246) (w0 := 5) (lv' := [(2, .int (zv1 + 5)), (0, .ref (ad 11)), (1, .int zv0), (3, .int zv2)]) C d_Mo_draw_246 (by decide) 2 rfl (by decide) rfl ?_
    refine r_iincK (pc := 249) (w0 := 1) (lv' := [(3, .int (zv2 + 1)), (2, .int (zv1 + 5)), (0, .ref (ad 11)), (1, .int zv0)]) C d_Mo_draw_249 (by decide) 3 rfl (by decide) rfl ?_
    refine r_goto (pc := 252) (tgt := 152) C d_Mo_draw_252 (by decide) ?_
    refine r_loc (lv' := [(0, .ref (ad 11)), (1, .int zv0), (2, .int (zv1 + 5)), (3, .int (zv2 + 1))]) [2, 3, 1, 0] rfl ?_
    exact ih (zv0, zv1 + 5, zv2 + 1, zv5, zv6, zv7, zv8, (zv9.1, zv9.2.1, zv9.2.2.1, zv9.2.2.2.1, zv9.2.2.2.2.1, zv9.2.2.2.2.2.1, zv9.2.2.2.2.2.2.1, zv9.2.2.2.2.2.2.2.1, zv9.2.2.2.2.2.2.2.2.1, upd zv9.2.2.2.2.2.2.2.2.2.1 zv3.toNatClampNeg (vp_nar .boolean zv4), upd zv9.2.2.2.2.2.2.2.2.2.2 zv2.toNatClampNeg (vp_nar .boolean (1))), zv10) h
set_option maxHeartbeats 4000000 in
set_option maxRecDepth 100000 in
theorem vl_Mo_draw_152_M {l : Launch} {E : State → Heap → Prop} {D : va_G} {A : Nat → Prop} {cI cZ cJ : ClassId} (hE : stb A E) {ad : Nat → Nat} {mw : Int32} {mp : MP} {rest : va_W} {p : Program} {e : Env} {sg : State} {m : MethodId} {args : Array Value} {below : List Frame} {meth : Method} {c : Code} (C : cx p sg m args meth c D clsA (TY cI cZ cJ) A GG R_Mo b_Mo_draw 4) (hr : meth.sig.returnType = (some .int)) (hX : E sg sg.heap) {q : Int32 × Int32 × Int64 × Int32 × ((Nat → Int32)) × MD × MR} {kx : Int32 × Int32 × Int32 × Int32 × Int64 × Int32 × ((Nat → Int32)) × MD × MR → Option (Int32 × Int32 × Int64 × Int32 × ((Nat → Int32)) × MD × MR)} (K : ∀ z : Int32 × Int32 × Int32 × Int32 × Int64 × Int32 × ((Nat → Int32)) × MD × MR, kx z = some q → vv p l e rm_Mo_draw sg m args below meth c D clsA A 4 0 0 (MQ below (qcI D clsA A (some (.int q.1)) (WM ad cI cZ q.2.1 q.2.2.1 q.2.2.2.1 mw q.2.2.2.2.1 q.2.2.2.2.2.1 q.2.2.2.2.2.2 mp rest)) args sg rm_Mo_draw.cells rm_Mo_draw.slots A) 255 [(0, .ref (ad 11)), (1, .int z.1), (2, .int z.2.1), (3, .int z.2.2.1)] [] (WM ad cI cZ z.2.2.2.1 z.2.2.2.2.1 z.2.2.2.2.2.1 mw z.2.2.2.2.2.2.1 z.2.2.2.2.2.2.2.1 z.2.2.2.2.2.2.2.2 mp rest)) :
    ∀ (n : Nat) (z : Int32 × Int32 × Int32 × Int32 × Int64 × Int32 × ((Nat → Int32)) × MD × MR), itn (bd_Mo_draw_152 kx) n z = some q → vv p l e rm_Mo_draw sg m args below meth c D clsA A 4 0 0 (MQ below (qcI D clsA A (some (.int q.1)) (WM ad cI cZ q.2.1 q.2.2.1 q.2.2.2.1 mw q.2.2.2.2.1 q.2.2.2.2.2.1 q.2.2.2.2.2.2 mp rest)) args sg rm_Mo_draw.cells rm_Mo_draw.slots A) 152 [(0, .ref (ad 11)), (1, .int z.1), (2, .int z.2.1), (3, .int z.2.2.1)] [] (WM ad cI cZ z.2.2.2.1 z.2.2.2.2.1 z.2.2.2.2.2.1 mw z.2.2.2.2.2.2.1 z.2.2.2.2.2.2.2.1 z.2.2.2.2.2.2.2.2 mp rest) := by
  have _ := hE
  intro n
  induction n with
  | zero => intro z h; cases h
  | succ n ih =>
    intro z h
    obtain ⟨zv0, zv1, zv2, zv3, zv4, zv5, zv6, zv7, zv8⟩ := z
    replace h : bd_Mo_draw_152 kx (itn (bd_Mo_draw_152 kx) n) (zv0, zv1, zv2, zv3, zv4, zv5, zv6, zv7, zv8) = some q := h
    unfold bd_Mo_draw_152 at h
    (try dsimp only at h)
    show vv p l e rm_Mo_draw sg m args below meth c D clsA A 4 0 0 (MQ below (qcI D clsA A (some (.int q.1)) (WM ad cI cZ q.2.1 q.2.2.1 q.2.2.2.1 mw q.2.2.2.2.1 q.2.2.2.2.2.1 q.2.2.2.2.2.2 mp rest)) args sg rm_Mo_draw.cells rm_Mo_draw.slots A) 152 [(0, .ref (ad 11)), (1, .int zv0), (2, .int zv1), (3, .int zv2)] [] (WM ad cI cZ zv3 zv4 zv5 mw zv6 zv7 zv8 mp rest)
    refine r_iload_n (pc := 152) C d_Mo_draw_152 rfl 3 rfl ?_
    refine r_aload_n (pc := 153) C d_Mo_draw_153 rfl 0 rfl ?_
    refine r_get (pc := 154) (v := .int zv7.2.2.2.1) C hin_Mo 11 rfl rfl 10 (by decide) mm_20 rfl rfl d_Mo_draw_154 ?_
    refine r_icmp_ge (pc := 157) (tgt := 255) C d_Mo_draw_157 (by decide) (fun c212 => ?_) (fun c212 => ?_)
    · replace h := ip c212 h
      refine r_loc (lv' := [(0, .ref (ad 11)), (1, .int zv0), (2, .int zv1), (3, .int zv2)]) [0, 1, 2, 3] rfl ?_
      exact K (zv0, zv1, zv2, zv3, zv4, zv5, zv6, zv7, zv8) h
    · replace h := iN c212 h
      refine r_aload_n (pc := 160) C d_Mo_draw_160 rfl 0 rfl ?_
      refine r_get (pc := 161) (v := .ref (ad 7)) C hin_Mo 11 rfl rfl 11 (by decide) mm_21 rfl rfl d_Mo_draw_161 ?_
      refine r_iload_n (pc := 164) C d_Mo_draw_164 rfl 3 rfl ?_
      refine r_aload_n (pc := 165) C d_Mo_draw_165 rfl 0 rfl ?_
      refine r_get (pc := 166) (v := .ref (ad 2)) C hin_Mo 11 rfl rfl 17 (by decide) mm_6 rfl rfl d_Mo_draw_166 ?_
      refine r_iload_n (pc := 169) C d_Mo_draw_169 rfl 2 rfl ?_
      obtain ⟨hi211, h⟩ := ign h
      refine r_iald (pc := 170) C 2 0 rfl rfl hi211 d_Mo_draw_170 ?_
      obtain ⟨hi210, h⟩ := ign h
      refine r_iast (pc := 171) (ws' := WM ad cI cZ zv3 zv4 zv5 mw zv6 (zv7.1, zv7.2.1, zv7.2.2.1, zv7.2.2.2.1, zv7.2.2.2.2.1, zv7.2.2.2.2.2.1, upd zv7.2.2.2.2.2.2.1 zv2.toNatClampNeg (zv8.2 zv1.toNatClampNeg), zv7.2.2.2.2.2.2.2.1, zv7.2.2.2.2.2.2.2.2.1, zv7.2.2.2.2.2.2.2.2.2.1, zv7.2.2.2.2.2.2.2.2.2.2) zv8 mp rest) C 7 0 rfl rfl hi210 rfl d_Mo_draw_171 ?_
      refine r_aload_n (pc := 172) C d_Mo_draw_172 rfl 0 rfl ?_
      refine r_get (pc := 173) (v := .ref (ad 6)) C hin_Mo 11 rfl rfl 12 (by decide) mm_22 rfl rfl d_Mo_draw_173 ?_
      refine r_iload_n (pc := 176) C d_Mo_draw_176 rfl 3 rfl ?_
      refine r_aload_n (pc := 177) C d_Mo_draw_177 rfl 0 rfl ?_
      refine r_get (pc := 178) (v := .ref (ad 2)) C hin_Mo 11 rfl rfl 17 (by decide) mm_6 rfl rfl d_Mo_draw_178 ?_
      refine r_iload_n (pc := 181) C d_Mo_draw_181 rfl 2 rfl ?_
      refine r_iconst (pc := 182) (v := 1) C d_Mo_draw_182 (by decide) ?_
      refine r_iadd (pc := 183) C d_Mo_draw_183 ?_
      obtain ⟨hi209, h⟩ := ign h
      refine r_iald (pc := 184) C 2 0 rfl rfl hi209 d_Mo_draw_184 ?_
      obtain ⟨hi208, h⟩ := ign h
      refine r_iast (pc := 185) (ws' := WM ad cI cZ zv3 zv4 zv5 mw zv6 (zv7.1, zv7.2.1, zv7.2.2.1, zv7.2.2.2.1, zv7.2.2.2.2.1, zv7.2.2.2.2.2.1, upd zv7.2.2.2.2.2.2.1 zv2.toNatClampNeg (zv8.2 zv1.toNatClampNeg), upd zv7.2.2.2.2.2.2.2.1 zv2.toNatClampNeg (zv8.2 (zv1 + (1 : Int32)).toNatClampNeg), zv7.2.2.2.2.2.2.2.2.1, zv7.2.2.2.2.2.2.2.2.2.1, zv7.2.2.2.2.2.2.2.2.2.2) zv8 mp rest) C 6 0 rfl rfl hi208 rfl d_Mo_draw_185 ?_
      refine r_aload_n (pc := 186) C d_Mo_draw_186 rfl 0 rfl ?_
      refine r_get (pc := 187) (v := .ref (ad 5)) C hin_Mo 11 rfl rfl 13 (by decide) mm_23 rfl rfl d_Mo_draw_187 ?_
      refine r_iload_n (pc := 190) C d_Mo_draw_190 rfl 3 rfl ?_
      refine r_aload_n (pc := 191) C d_Mo_draw_191 rfl 0 rfl ?_
      refine r_get (pc := 192) (v := .ref (ad 2)) C hin_Mo 11 rfl rfl 17 (by decide) mm_6 rfl rfl d_Mo_draw_192 ?_
      refine r_iload_n (pc := 195) C d_Mo_draw_195 rfl 2 rfl ?_
      refine r_iconst (pc := 196) (v := 2) C d_Mo_draw_196 (by decide) ?_
      refine r_iadd (pc := 197) C d_Mo_draw_197 ?_
      obtain ⟨hi207, h⟩ := ign h
      refine r_iald (pc := 198) C 2 0 rfl rfl hi207 d_Mo_draw_198 ?_
      obtain ⟨hi206, h⟩ := ign h
      refine r_iast (pc := 199) (ws' := WM ad cI cZ zv3 zv4 zv5 mw zv6 (zv7.1, zv7.2.1, zv7.2.2.1, zv7.2.2.2.1, zv7.2.2.2.2.1, zv7.2.2.2.2.2.1, upd zv7.2.2.2.2.2.2.1 zv2.toNatClampNeg (zv8.2 zv1.toNatClampNeg), upd zv7.2.2.2.2.2.2.2.1 zv2.toNatClampNeg (zv8.2 (zv1 + (1 : Int32)).toNatClampNeg), upd zv7.2.2.2.2.2.2.2.2.1 zv2.toNatClampNeg (zv8.2 (zv1 + (2 : Int32)).toNatClampNeg), zv7.2.2.2.2.2.2.2.2.2.1, zv7.2.2.2.2.2.2.2.2.2.2) zv8 mp rest) C 5 0 rfl rfl hi206 rfl d_Mo_draw_199 ?_
      refine r_aload_n (pc := 200) C d_Mo_draw_200 rfl 0 rfl ?_
      refine r_get (pc := 201) (v := .ref (ad 4)) C hin_Mo 11 rfl rfl 14 (by decide) mm_24 rfl rfl d_Mo_draw_201 ?_
      refine r_iload_n (pc := 204) C d_Mo_draw_204 rfl 3 rfl ?_
      refine r_aload_n (pc := 205) C d_Mo_draw_205 rfl 0 rfl ?_
      refine r_get (pc := 206) (v := .ref (ad 2)) C hin_Mo 11 rfl rfl 17 (by decide) mm_6 rfl rfl d_Mo_draw_206 ?_
      refine r_iload_n (pc := 209) C d_Mo_draw_209 rfl 2 rfl ?_
      refine r_iconst (pc := 210) (v := 3) C d_Mo_draw_210 (by decide) ?_
      refine r_iadd (pc := 211) C d_Mo_draw_211 ?_
      obtain ⟨hi205, h⟩ := ign h
      refine r_iald (pc := 212) C 2 0 rfl rfl hi205 d_Mo_draw_212 ?_
      refine r_iconst (pc := 213) (v := 1) C d_Mo_draw_213 (by decide) ?_
      refine r_icmp_ne (pc := 214) (tgt := 221) C d_Mo_draw_214 (by decide) (fun c204 => ?_) (fun c204 => ?_)
      · replace h := iN c204 h
        refine r_iconst (pc := 221) (v := 0) C d_Mo_draw_221 (by decide) ?_
        refine r_loc (lv' := [(0, .ref (ad 11)), (1, .int zv0), (2, .int zv1), (3, .int zv2)]) [0, 1, 2, 3] rfl ?_
        exact vj_Mo_draw_222_M hE C hr hX K ih (zv0, zv1, zv2, zv2, 0, zv3, zv4, zv5, zv6, (zv7.1, zv7.2.1, zv7.2.2.1, zv7.2.2.2.1, zv7.2.2.2.2.1, zv7.2.2.2.2.2.1, upd zv7.2.2.2.2.2.2.1 zv2.toNatClampNeg (zv8.2 zv1.toNatClampNeg), upd zv7.2.2.2.2.2.2.2.1 zv2.toNatClampNeg (zv8.2 (zv1 + (1 : Int32)).toNatClampNeg), upd zv7.2.2.2.2.2.2.2.2.1 zv2.toNatClampNeg (zv8.2 (zv1 + (2 : Int32)).toNatClampNeg), zv7.2.2.2.2.2.2.2.2.2.1, zv7.2.2.2.2.2.2.2.2.2.2), zv8) h
      · replace h := ip c204 h
        refine r_iconst (pc := 217) (v := 1) C d_Mo_draw_217 (by decide) ?_
        refine r_goto (pc := 218) (tgt := 222) C d_Mo_draw_218 (by decide) ?_
        refine r_loc (lv' := [(0, .ref (ad 11)), (1, .int zv0), (2, .int zv1), (3, .int zv2)]) [0, 1, 2, 3] rfl ?_
        exact vj_Mo_draw_222_M hE C hr hX K ih (zv0, zv1, zv2, zv2, 1, zv3, zv4, zv5, zv6, (zv7.1, zv7.2.1, zv7.2.2.1, zv7.2.2.2.1, zv7.2.2.2.2.1, zv7.2.2.2.2.2.1, upd zv7.2.2.2.2.2.2.1 zv2.toNatClampNeg (zv8.2 zv1.toNatClampNeg), upd zv7.2.2.2.2.2.2.2.1 zv2.toNatClampNeg (zv8.2 (zv1 + (1 : Int32)).toNatClampNeg), upd zv7.2.2.2.2.2.2.2.2.1 zv2.toNatClampNeg (zv8.2 (zv1 + (2 : Int32)).toNatClampNeg), zv7.2.2.2.2.2.2.2.2.2.1, zv7.2.2.2.2.2.2.2.2.2.2), zv8) h
set_option maxHeartbeats 4000000 in
set_option maxRecDepth 100000 in
theorem vl_Mo_draw_275_M {l : Launch} {E : State → Heap → Prop} {D : va_G} {A : Nat → Prop} {cI cZ cJ : ClassId} (hE : stb A E) {ad : Nat → Nat} {mw : Int32} {mp : MP} {rest : va_W} {p : Program} {e : Env} {sg : State} {m : MethodId} {args : Array Value} {below : List Frame} {meth : Method} {c : Code} (C : cx p sg m args meth c D clsA (TY cI cZ cJ) A GG R_Mo b_Mo_draw 4) (hr : meth.sig.returnType = (some .int)) (hX : E sg sg.heap) {q : Int32 × Int32 × Int64 × Int32 × ((Nat → Int32)) × MD × MR} {kx : Int32 × Int32 × Int32 × Int32 × Int64 × Int32 × ((Nat → Int32)) × MD × MR → Option (Int32 × Int32 × Int64 × Int32 × ((Nat → Int32)) × MD × MR)} (K : ∀ z : Int32 × Int32 × Int32 × Int32 × Int64 × Int32 × ((Nat → Int32)) × MD × MR, kx z = some q → vv p l e rm_Mo_draw sg m args below meth c D clsA A 4 0 0 (MQ below (qcI D clsA A (some (.int q.1)) (WM ad cI cZ q.2.1 q.2.2.1 q.2.2.2.1 mw q.2.2.2.2.1 q.2.2.2.2.2.1 q.2.2.2.2.2.2 mp rest)) args sg rm_Mo_draw.cells rm_Mo_draw.slots A) 296 [(0, .ref (ad 11)), (1, .int z.1), (2, .int z.2.1), (3, .int z.2.2.1)] [] (WM ad cI cZ z.2.2.2.1 z.2.2.2.2.1 z.2.2.2.2.2.1 mw z.2.2.2.2.2.2.1 z.2.2.2.2.2.2.2.1 z.2.2.2.2.2.2.2.2 mp rest)) :
    ∀ (n : Nat) (z : Int32 × Int32 × Int32 × Int32 × Int64 × Int32 × ((Nat → Int32)) × MD × MR), itn (bd_Mo_draw_275 kx) n z = some q → vv p l e rm_Mo_draw sg m args below meth c D clsA A 4 0 0 (MQ below (qcI D clsA A (some (.int q.1)) (WM ad cI cZ q.2.1 q.2.2.1 q.2.2.2.1 mw q.2.2.2.2.1 q.2.2.2.2.2.1 q.2.2.2.2.2.2 mp rest)) args sg rm_Mo_draw.cells rm_Mo_draw.slots A) 275 [(0, .ref (ad 11)), (1, .int z.1), (2, .int z.2.1), (3, .int z.2.2.1)] [] (WM ad cI cZ z.2.2.2.1 z.2.2.2.2.1 z.2.2.2.2.2.1 mw z.2.2.2.2.2.2.1 z.2.2.2.2.2.2.2.1 z.2.2.2.2.2.2.2.2 mp rest) := by
  have _ := hE
  intro n
  induction n with
  | zero => intro z h; cases h
  | succ n ih =>
    intro z h
    obtain ⟨zv0, zv1, zv2, zv3, zv4, zv5, zv6, zv7, zv8⟩ := z
    replace h : bd_Mo_draw_275 kx (itn (bd_Mo_draw_275 kx) n) (zv0, zv1, zv2, zv3, zv4, zv5, zv6, zv7, zv8) = some q := h
    unfold bd_Mo_draw_275 at h
    (try dsimp only at h)
    show vv p l e rm_Mo_draw sg m args below meth c D clsA A 4 0 0 (MQ below (qcI D clsA A (some (.int q.1)) (WM ad cI cZ q.2.1 q.2.2.1 q.2.2.2.1 mw q.2.2.2.2.1 q.2.2.2.2.2.1 q.2.2.2.2.2.2 mp rest)) args sg rm_Mo_draw.cells rm_Mo_draw.slots A) 275 [(0, .ref (ad 11)), (1, .int zv0), (2, .int zv1), (3, .int zv2)] [] (WM ad cI cZ zv3 zv4 zv5 mw zv6 zv7 zv8 mp rest)
    refine r_iload_n (pc := 275) C d_Mo_draw_275 rfl 3 rfl ?_
    refine r_aload_n (pc := 276) C d_Mo_draw_276 rfl 0 rfl ?_
    refine r_get (pc := 277) (v := .int zv7.1) C hin_Mo 11 rfl rfl 4 (by decide) mm_26 rfl rfl d_Mo_draw_277 ?_
    refine r_icmp_ge (pc := 280) (tgt := 296) C d_Mo_draw_280 (by decide) (fun c217 => ?_) (fun c217 => ?_)
    · replace h := ip c217 h
      refine r_loc (lv' := [(0, .ref (ad 11)), (1, .int zv0), (2, .int zv1), (3, .int zv2)]) [0, 1, 2, 3] rfl ?_
      exact K (zv0, zv1, zv2, zv3, zv4, zv5, zv6, zv7, zv8) h
    · replace h := iN c217 h
      refine r_aload_n (pc := 283) C d_Mo_draw_283 rfl 0 rfl ?_
      refine r_get (pc := 284) (v := .ref (ad 10)) C hin_Mo 11 rfl rfl 5 (by decide) mm_27 rfl rfl d_Mo_draw_284 ?_
      refine r_iload_n (pc := 287) C d_Mo_draw_287 rfl 3 rfl ?_
      refine r_iconst (pc := 288) (v := 0) C d_Mo_draw_288 (by decide) ?_
      obtain ⟨hi216, h⟩ := ign h
      refine r_zast (pc := 289) (ws' := WM ad cI cZ zv3 zv4 zv5 mw (upd zv6 zv2.toNatClampNeg (vp_nar .boolean (0))) zv7 zv8 mp rest) C 10 1 rfl rfl hi216 rfl d_Mo_draw_289 ?_
      refine r_iincK (pc := 290) (w0 := 1) (lv' := [(3, .int (zv2 + 1)), (0, .ref (ad 11)), (1, .int zv0), (2, .int zv1)]) C d_Mo_draw_290 (by decide) 3 rfl (by decide) rfl ?_
      refine r_goto (pc := 293) (tgt := 275) C d_Mo_draw_293 (by decide) ?_
      refine r_loc (lv' := [(0, .ref (ad 11)), (1, .int zv0), (2, .int zv1), (3, .int (zv2 + 1))]) [1, 2, 3, 0] rfl ?_
      exact ih (zv0, zv1, zv2 + 1, zv3, zv4, zv5, upd zv6 zv2.toNatClampNeg (vp_nar .boolean (0)), zv7, zv8) h
set_option maxHeartbeats 4000000 in
set_option maxRecDepth 100000 in
theorem vj_Mo_draw_15_M {l : Launch} {E : State → Heap → Prop} {D : va_G} {A : Nat → Prop} {cI cZ cJ : ClassId} (hE : stb A E) {ad : Nat → Nat} {mw : Int32} {mp : MP} {rest : va_W} {p : Program} {e : Env} {sg : State} {m : MethodId} {args : Array Value} {below : List Frame} {meth : Method} {c : Code} (C : cx p sg m args meth c D clsA (TY cI cZ cJ) A GG R_Mo b_Mo_draw 4) (hr : meth.sig.returnType = (some .int)) (hX : E sg sg.heap) {q : Int32 × Int32 × Int64 × Int32 × ((Nat → Int32)) × MD × MR} :
    ∀ z : Int32 × Int32 × Int32 × Int64 × Int32 × ((Nat → Int32)) × MD × MR, jn_Mo_draw_15 z = some q → vv p l e rm_Mo_draw sg m args below meth c D clsA A 4 0 0 (MQ below (qcI D clsA A (some (.int q.1)) (WM ad cI cZ q.2.1 q.2.2.1 q.2.2.2.1 mw q.2.2.2.2.1 q.2.2.2.2.2.1 q.2.2.2.2.2.2 mp rest)) args sg rm_Mo_draw.cells rm_Mo_draw.slots A) 15 [(0, .ref (ad 11)), (1, .int z.1)] [.int z.2.1, .ref (ad 11)] (WM ad cI cZ z.2.2.1 z.2.2.2.1 z.2.2.2.2.1 mw z.2.2.2.2.2.1 z.2.2.2.2.2.2.1 z.2.2.2.2.2.2.2 mp rest) := by
  have _ := hE
  intro z h
  obtain ⟨zv0, zv1, zv2, zv3, zv4, zv5, zv6, zv7⟩ := z
  unfold jn_Mo_draw_15 at h
  (try dsimp only at h)
  show vv p l e rm_Mo_draw sg m args below meth c D clsA A 4 0 0 (MQ below (qcI D clsA A (some (.int q.1)) (WM ad cI cZ q.2.1 q.2.2.1 q.2.2.2.1 mw q.2.2.2.2.1 q.2.2.2.2.2.1 q.2.2.2.2.2.2 mp rest)) args sg rm_Mo_draw.cells rm_Mo_draw.slots A) 15 [(0, .ref (ad 11)), (1, .int zv0)] [.int zv1, .ref (ad 11)] (WM ad cI cZ zv2 zv3 zv4 mw zv5 zv6 zv7 mp rest)
  refine r_put (pc := 15) (ty := .int) (ws' := WM ad cI cZ zv1 zv3 zv4 mw zv5 zv6 zv7 mp rest) C hin_Mo t_Mo t_Mo_ok n_Mo 11 rfl rfl 0 (by decide) mm_0 rfl rfl pd_I rfl rfl (Nat.le_of_ble_eq_true rfl) rfl d_Mo_draw_15 ?_
  refine r_aload_n (pc := 18) C d_Mo_draw_18 rfl 0 rfl ?_
  refine r_get (pc := 19) (v := .int zv1) C hin_Mo 11 rfl rfl 0 (by decide) mm_0 rfl rfl d_Mo_draw_19 ?_
  refine r_if_le (pc := 22) (tgt := 27) C d_Mo_draw_22 (by decide) (fun c231 => ?_) (fun c231 => ?_)
  · replace h := ip c231 h
    refine r_aload_n (pc := 27) C d_Mo_draw_27 rfl 0 rfl ?_
    refine r_iload_n (pc := 28) C d_Mo_draw_28 rfl 1 rfl ?_
    refine r_put (pc := 29) (ty := .int) (ws' := WM ad cI cZ zv1 zv3 zv0 mw zv5 zv6 zv7 mp rest) C hin_Mo t_Mo t_Mo_ok n_Mo 11 rfl rfl 2 (by decide) mm_1 rfl rfl pd_I rfl rfl (Nat.le_of_ble_eq_true rfl) rfl d_Mo_draw_29 ?_
    refine r_aload_n (pc := 32) C d_Mo_draw_32 rfl 0 rfl ?_
    refine r_iload_n (pc := 33) C d_Mo_draw_33 rfl 1 rfl ?_
    obtain ⟨q223, hq223, h⟩ := ob h
    refine r_callV (pc := 34) (As := [.int zv0]) (rest := []) (st1 := []) hE gg_good C hX (c_Mo_drawRow_M hE hq223) mm_28 mm_29 mm_30 mm_10 mm_31 hd_Mo_drawRow 11 rfl rfl ⟨⟨(Nat.le_of_ble_eq_true rfl), (Nat.le_of_ble_eq_true rfl)⟩, (Nat.le_of_ble_eq_true rfl), (Nat.le_of_ble_eq_true rfl)⟩ (Nat.le_of_ble_eq_true rfl) rfl rfl d_Mo_draw_34 ?_
    refine r_iconst (pc := 37) (v := 1) C d_Mo_draw_37 (by decide) ?_
    refine r_istore_n (pc := 38) (lv' := [(2, .int (1)), (0, .ref (ad 11)), (1, .int zv0)]) C d_Mo_draw_38 rfl (by decide) rfl ?_
    refine r_aload_n (pc := 39) C d_Mo_draw_39 rfl 1 rfl ?_
    refine r_aload_n (pc := 40) C d_Mo_draw_40 rfl 1 rfl ?_
    refine r_get (pc := 41) (v := .ref (ad 2)) C hin_Mo 11 rfl rfl 17 (by decide) mm_6 rfl rfl d_Mo_draw_41 ?_
    refine r_iconst (pc := 44) (v := 0) C d_Mo_draw_44 (by decide) ?_
    obtain ⟨hi230, h⟩ := ign h
    refine r_iald (pc := 45) C 2 0 rfl rfl hi230 d_Mo_draw_45 ?_
    refine r_put (pc := 46) (ty := .int) (ws' := WM ad cI cZ zv1 q223.1 zv0 mw zv5 (zv6.1, q223.2.2 (0 : Int32).toNatClampNeg, zv6.2.2.1, zv6.2.2.2.1, zv6.2.2.2.2.1, zv6.2.2.2.2.2.1, zv6.2.2.2.2.2.2.1, zv6.2.2.2.2.2.2.2.1, zv6.2.2.2.2.2.2.2.2.1, zv6.2.2.2.2.2.2.2.2.2.1, zv6.2.2.2.2.2.2.2.2.2.2) q223.2 mp rest) C hin_Mo t_Mo t_Mo_ok n_Mo 11 rfl rfl 6 (by decide) mm_16 rfl rfl pd_I rfl rfl (Nat.le_of_ble_eq_true rfl) rfl d_Mo_draw_46 ?_
    refine r_iconst (pc := 49) (v := 0) C d_Mo_draw_49 (by decide) ?_
    refine r_istore_n (pc := 50) (lv' := [(3, .int (0)), (2, .int (1)), (0, .ref (ad 11)), (1, .int zv0)]) C d_Mo_draw_50 rfl (by decide) rfl ?_
    refine r_loc (lv' := [(0, .ref (ad 11)), (1, .int zv0), (2, .int (1)), (3, .int (0))]) [2, 3, 1, 0] rfl ?_
    refine vl_Mo_draw_51_M hE C hr hX (fun z224 h => ?_) 70 (zv0, 1, 0, zv1, q223.1, zv0, zv5, (zv6.1, q223.2.2 (0 : Int32).toNatClampNeg, zv6.2.2.1, zv6.2.2.2.1, zv6.2.2.2.2.1, zv6.2.2.2.2.2.1, zv6.2.2.2.2.2.2.1, zv6.2.2.2.2.2.2.2.1, zv6.2.2.2.2.2.2.2.2.1, zv6.2.2.2.2.2.2.2.2.2.1, zv6.2.2.2.2.2.2.2.2.2.2), q223.2) h
    refine r_iload_n (pc := 79) C d_Mo_draw_79 rfl 2 rfl ?_
    refine r_aload_n (pc := 80) C d_Mo_draw_80 rfl 0 rfl ?_
    refine r_get (pc := 81) (v := .int z224.2.2.2.2.2.2.2.1.2.1) C hin_Mo 11 rfl rfl 6 (by decide) mm_16 rfl rfl d_Mo_draw_81 ?_
    refine r_iadd (pc := 84) C d_Mo_draw_84 ?_
    refine r_istore_n (pc := 85) (lv' := [(2, .int (z224.2.1 + z224.2.2.2.2.2.2.2.1.2.1)), (0, .ref (ad 11)), (1, .int z224.1), (3, .int z224.2.2.1)]) C d_Mo_draw_85 rfl (by decide) rfl ?_
    refine r_aload_n (pc := 86) C d_Mo_draw_86 rfl 1 rfl ?_
    refine r_aload_n (pc := 87) C d_Mo_draw_87 rfl 1 rfl ?_
    refine r_get (pc := 88) (v := .ref (ad 2)) C hin_Mo 11 rfl rfl 17 (by decide) mm_6 rfl rfl d_Mo_draw_88 ?_
    refine r_iload_n (pc := 91) C d_Mo_draw_91 rfl 0 rfl ?_
    obtain ⟨hi229, h⟩ := ign h
    refine r_iald (pc := 92) C 2 0 rfl rfl hi229 d_Mo_draw_92 ?_
    refine r_put (pc := 93) (ty := .int) (ws' := WM ad cI cZ z224.2.2.2.1 z224.2.2.2.2.1 z224.2.2.2.2.2.1 mw z224.2.2.2.2.2.2.1 (z224.2.2.2.2.2.2.2.1.1, z224.2.2.2.2.2.2.2.1.2.1, z224.2.2.2.2.2.2.2.2.2 (z224.2.1 + z224.2.2.2.2.2.2.2.1.2.1).toNatClampNeg, z224.2.2.2.2.2.2.2.1.2.2.2.1, z224.2.2.2.2.2.2.2.1.2.2.2.2.1, z224.2.2.2.2.2.2.2.1.2.2.2.2.2.1, z224.2.2.2.2.2.2.2.1.2.2.2.2.2.2.1, z224.2.2.2.2.2.2.2.1.2.2.2.2.2.2.2.1, z224.2.2.2.2.2.2.2.1.2.2.2.2.2.2.2.2.1, z224.2.2.2.2.2.2.2.1.2.2.2.2.2.2.2.2.2.1, z224.2.2.2.2.2.2.2.1.2.2.2.2.2.2.2.2.2.2) z224.2.2.2.2.2.2.2.2 mp rest) C hin_Mo t_Mo t_Mo_ok n_Mo 11 rfl rfl 8 (by decide) mm_18 rfl rfl pd_I rfl rfl (Nat.le_of_ble_eq_true rfl) rfl d_Mo_draw_93 ?_
    refine r_iconst (pc := 96) (v := 0) C d_Mo_draw_96 (by decide) ?_
    refine r_istore_n (pc := 97) (lv' := [(3, .int (0)), (2, .int (z224.2.1 + z224.2.2.2.2.2.2.2.1.2.1)), (0, .ref (ad 11)), (1, .int z224.1)]) C d_Mo_draw_97 rfl (by decide) rfl ?_
    refine r_loc (lv' := [(0, .ref (ad 11)), (1, .int z224.1), (2, .int (z224.2.1 + z224.2.2.2.2.2.2.2.1.2.1)), (3, .int (0))]) [2, 3, 1, 0] rfl ?_
    refine vl_Mo_draw_98_M hE C hr hX (fun z225 h => ?_) 70 (z224.1, z224.2.1 + z224.2.2.2.2.2.2.2.1.2.1, 0, z224.2.2.2.1, z224.2.2.2.2.1, z224.2.2.2.2.2.1, z224.2.2.2.2.2.2.1, (z224.2.2.2.2.2.2.2.1.1, z224.2.2.2.2.2.2.2.1.2.1, z224.2.2.2.2.2.2.2.2.2 (z224.2.1 + z224.2.2.2.2.2.2.2.1.2.1).toNatClampNeg, z224.2.2.2.2.2.2.2.1.2.2.2.1, z224.2.2.2.2.2.2.2.1.2.2.2.2.1, z224.2.2.2.2.2.2.2.1.2.2.2.2.2.1, z224.2.2.2.2.2.2.2.1.2.2.2.2.2.2.1, z224.2.2.2.2.2.2.2.1.2.2.2.2.2.2.2.1, z224.2.2.2.2.2.2.2.1.2.2.2.2.2.2.2.2.1, z224.2.2.2.2.2.2.2.1.2.2.2.2.2.2.2.2.2.1, z224.2.2.2.2.2.2.2.1.2.2.2.2.2.2.2.2.2.2), z224.2.2.2.2.2.2.2.2) h
    refine r_iload_n (pc := 128) C d_Mo_draw_128 rfl 2 rfl ?_
    refine r_aload_n (pc := 129) C d_Mo_draw_129 rfl 0 rfl ?_
    refine r_get (pc := 130) (v := .int z225.2.2.2.2.2.2.2.1.2.2.1) C hin_Mo 11 rfl rfl 8 (by decide) mm_18 rfl rfl d_Mo_draw_130 ?_
    refine r_iconst (pc := 133) (v := 1) C d_Mo_draw_133 (by decide) ?_
    refine r_iadd (pc := 134) C d_Mo_draw_134 ?_
    refine r_iadd (pc := 135) C d_Mo_draw_135 ?_
    refine r_istore_n (pc := 136) (lv' := [(2, .int (z225.2.1 + (z225.2.2.2.2.2.2.2.1.2.2.1 + (1 : Int32)))), (0, .ref (ad 11)), (1, .int z225.1), (3, .int z225.2.2.1)]) C d_Mo_draw_136 rfl (by decide) rfl ?_
    refine r_aload_n (pc := 137) C d_Mo_draw_137 rfl 1 rfl ?_
    refine r_aload_n (pc := 138) C d_Mo_draw_138 rfl 1 rfl ?_
    refine r_get (pc := 139) (v := .ref (ad 2)) C hin_Mo 11 rfl rfl 17 (by decide) mm_6 rfl rfl d_Mo_draw_139 ?_
    refine r_iload_n (pc := 142) C d_Mo_draw_142 rfl 0 rfl ?_
    obtain ⟨hi228, h⟩ := ign h
    refine r_iald (pc := 143) C 2 0 rfl rfl hi228 d_Mo_draw_143 ?_
    refine r_put (pc := 144) (ty := .int) (ws' := WM ad cI cZ z225.2.2.2.1 z225.2.2.2.2.1 z225.2.2.2.2.2.1 mw z225.2.2.2.2.2.2.1 (z225.2.2.2.2.2.2.2.1.1, z225.2.2.2.2.2.2.2.1.2.1, z225.2.2.2.2.2.2.2.1.2.2.1, z225.2.2.2.2.2.2.2.2.2 (z225.2.1 + (z225.2.2.2.2.2.2.2.1.2.2.1 + (1 : Int32))).toNatClampNeg, z225.2.2.2.2.2.2.2.1.2.2.2.2.1, z225.2.2.2.2.2.2.2.1.2.2.2.2.2.1, z225.2.2.2.2.2.2.2.1.2.2.2.2.2.2.1, z225.2.2.2.2.2.2.2.1.2.2.2.2.2.2.2.1, z225.2.2.2.2.2.2.2.1.2.2.2.2.2.2.2.2.1, z225.2.2.2.2.2.2.2.1.2.2.2.2.2.2.2.2.2.1, z225.2.2.2.2.2.2.2.1.2.2.2.2.2.2.2.2.2.2) z225.2.2.2.2.2.2.2.2 mp rest) C hin_Mo t_Mo t_Mo_ok n_Mo 11 rfl rfl 10 (by decide) mm_20 rfl rfl pd_I rfl rfl (Nat.le_of_ble_eq_true rfl) rfl d_Mo_draw_144 ?_
    refine r_iincK (pc := 147) (w0 := 1) (lv' := [(2, .int ((z225.2.1 + (z225.2.2.2.2.2.2.2.1.2.2.1 + (1 : Int32))) + 1)), (0, .ref (ad 11)), (1, .int z225.1), (3, .int z225.2.2.1)]) C d_Mo_draw_147 (by decide) 0 rfl (by decide) rfl ?_
    refine r_iconst (pc := 150) (v := 0) C d_Mo_draw_150 (by decide) ?_
    refine r_istore_n (pc := 151) (lv' := [(3, .int (0)), (2, .int ((z225.2.1 + (z225.2.2.2.2.2.2.2.1.2.2.1 + (1 : Int32))) + 1)), (0, .ref (ad 11)), (1, .int z225.1)]) C d_Mo_draw_151 rfl (by decide) rfl ?_
    refine r_loc (lv' := [(0, .ref (ad 11)), (1, .int z225.1), (2, .int ((z225.2.1 + (z225.2.2.2.2.2.2.2.1.2.2.1 + (1 : Int32))) + 1)), (3, .int (0))]) [2, 3, 1, 0] rfl ?_
    refine vl_Mo_draw_152_M hE C hr hX (fun z226 h => ?_) 70 (z225.1, (z225.2.1 + (z225.2.2.2.2.2.2.2.1.2.2.1 + (1 : Int32))) + 1, 0, z225.2.2.2.1, z225.2.2.2.2.1, z225.2.2.2.2.2.1, z225.2.2.2.2.2.2.1, (z225.2.2.2.2.2.2.2.1.1, z225.2.2.2.2.2.2.2.1.2.1, z225.2.2.2.2.2.2.2.1.2.2.1, z225.2.2.2.2.2.2.2.2.2 (z225.2.1 + (z225.2.2.2.2.2.2.2.1.2.2.1 + (1 : Int32))).toNatClampNeg, z225.2.2.2.2.2.2.2.1.2.2.2.2.1, z225.2.2.2.2.2.2.2.1.2.2.2.2.2.1, z225.2.2.2.2.2.2.2.1.2.2.2.2.2.2.1, z225.2.2.2.2.2.2.2.1.2.2.2.2.2.2.2.1, z225.2.2.2.2.2.2.2.1.2.2.2.2.2.2.2.2.1, z225.2.2.2.2.2.2.2.1.2.2.2.2.2.2.2.2.2.1, z225.2.2.2.2.2.2.2.1.2.2.2.2.2.2.2.2.2.2), z225.2.2.2.2.2.2.2.2) h
    refine r_aload_n (pc := 255) C d_Mo_draw_255 rfl 0 rfl ?_
    refine r_aload_n (pc := 256) C d_Mo_draw_256 rfl 0 rfl ?_
    refine r_get (pc := 257) (v := .int z226.2.2.2.2.2.2.2.1.2.1) C hin_Mo 11 rfl rfl 6 (by decide) mm_16 rfl rfl d_Mo_draw_257 ?_
    refine r_aload_n (pc := 260) C d_Mo_draw_260 rfl 0 rfl ?_
    refine r_get (pc := 261) (v := .int z226.2.2.2.2.2.2.2.1.2.2.1) C hin_Mo 11 rfl rfl 8 (by decide) mm_18 rfl rfl d_Mo_draw_261 ?_
    refine r_iadd (pc := 264) C d_Mo_draw_264 ?_
    refine r_aload_n (pc := 265) C d_Mo_draw_265 rfl 0 rfl ?_
    refine r_get (pc := 266) (v := .int z226.2.2.2.2.2.2.2.1.2.2.2.1) C hin_Mo 11 rfl rfl 10 (by decide) mm_20 rfl rfl d_Mo_draw_266 ?_
    refine r_iadd (pc := 269) C d_Mo_draw_269 ?_
    refine r_put (pc := 270) (ty := .int) (ws' := WM ad cI cZ z226.2.2.2.1 z226.2.2.2.2.1 z226.2.2.2.2.2.1 mw z226.2.2.2.2.2.2.1 ((z226.2.2.2.2.2.2.2.1.2.1 + z226.2.2.2.2.2.2.2.1.2.2.1) + z226.2.2.2.2.2.2.2.1.2.2.2.1, z226.2.2.2.2.2.2.2.1.2.1, z226.2.2.2.2.2.2.2.1.2.2.1, z226.2.2.2.2.2.2.2.1.2.2.2.1, z226.2.2.2.2.2.2.2.1.2.2.2.2.1, z226.2.2.2.2.2.2.2.1.2.2.2.2.2.1, z226.2.2.2.2.2.2.2.1.2.2.2.2.2.2.1, z226.2.2.2.2.2.2.2.1.2.2.2.2.2.2.2.1, z226.2.2.2.2.2.2.2.1.2.2.2.2.2.2.2.2.1, z226.2.2.2.2.2.2.2.1.2.2.2.2.2.2.2.2.2.1, z226.2.2.2.2.2.2.2.1.2.2.2.2.2.2.2.2.2.2) z226.2.2.2.2.2.2.2.2 mp rest) C hin_Mo t_Mo t_Mo_ok n_Mo 11 rfl rfl 4 (by decide) mm_26 rfl rfl pd_I rfl rfl (Nat.le_of_ble_eq_true rfl) rfl d_Mo_draw_270 ?_
    refine r_iconst (pc := 273) (v := 0) C d_Mo_draw_273 (by decide) ?_
    refine r_istore_n (pc := 274) (lv' := [(3, .int (0)), (0, .ref (ad 11)), (1, .int z226.1), (2, .int z226.2.1)]) C d_Mo_draw_274 rfl (by decide) rfl ?_
    refine r_loc (lv' := [(0, .ref (ad 11)), (1, .int z226.1), (2, .int z226.2.1), (3, .int (0))]) [1, 2, 3, 0] rfl ?_
    refine vl_Mo_draw_275_M hE C hr hX (fun z227 h => ?_) 70 (z226.1, z226.2.1, 0, z226.2.2.2.1, z226.2.2.2.2.1, z226.2.2.2.2.2.1, z226.2.2.2.2.2.2.1, ((z226.2.2.2.2.2.2.2.1.2.1 + z226.2.2.2.2.2.2.2.1.2.2.1) + z226.2.2.2.2.2.2.2.1.2.2.2.1, z226.2.2.2.2.2.2.2.1.2.1, z226.2.2.2.2.2.2.2.1.2.2.1, z226.2.2.2.2.2.2.2.1.2.2.2.1, z226.2.2.2.2.2.2.2.1.2.2.2.2.1, z226.2.2.2.2.2.2.2.1.2.2.2.2.2.1, z226.2.2.2.2.2.2.2.1.2.2.2.2.2.2.1, z226.2.2.2.2.2.2.2.1.2.2.2.2.2.2.2.1, z226.2.2.2.2.2.2.2.1.2.2.2.2.2.2.2.2.1, z226.2.2.2.2.2.2.2.1.2.2.2.2.2.2.2.2.2.1, z226.2.2.2.2.2.2.2.1.2.2.2.2.2.2.2.2.2.2), z226.2.2.2.2.2.2.2.2) h
    refine r_aload_n (pc := 296) C d_Mo_draw_296 rfl 0 rfl ?_
    refine r_get (pc := 297) (v := .int z227.2.2.2.2.2.2.2.1.1) C hin_Mo 11 rfl rfl 4 (by decide) mm_26 rfl rfl d_Mo_draw_297 ?_
    cases h
    exact r_iret (pc := 300) C hr rfl rfl rfl d_Mo_draw_300
  · replace h := iN c231 h
    refine r_iconst (pc := 25) (v := 0) C d_Mo_draw_25 (by decide) ?_
    cases h
    exact r_iret (pc := 26) C hr rfl rfl rfl d_Mo_draw_26
set_option maxHeartbeats 4000000 in
set_option maxRecDepth 100000 in
theorem c_Mo_draw_M {l : Launch} {E : State → Heap → Prop} {D : va_G} {A : Nat → Prop} {cI cZ cJ : ClassId} (hE : stb A E) {ad : Nat → Nat} {mk : Int32} {mu : Int64} {mz : Int32} {mw : Int32} {mo : (Nat → Int32)} {md : MD} {mr : MR} {mp : MP} {rest : va_W} {p0 : Int32} {q : Int32 × Int32 × Int64 × Int32 × ((Nat → Int32)) × MD × MR} (h : f_Mo_draw mk mu mz mo md mr p0 = some q) : cm l E D clsA (TY cI cZ cJ) A GG y_Mo_draw b_Mo_draw 4 (some .int) rm_Mo_draw [.ref (ad 11), .int p0] (WM ad cI cZ mk mu mz mw mo md mr mp rest) (some (.int q.1)) (WM ad cI cZ q.2.1 q.2.2.1 q.2.2.2.1 mw q.2.2.2.2.1 q.2.2.2.2.2.1 q.2.2.2.2.2.2 mp rest) := by
  refine r_met (own := R_Mo) rfl (by decide) (Nat.le_of_ble_eq_true rfl) rfl ?_
  intro p e sg m args below meth c C hr hnm hX
  unfold f_Mo_draw at h
  refine r_aload_n (pc := 0) C d_Mo_draw_0 rfl 0 rfl ?_
  refine r_iload_n (pc := 1) C d_Mo_draw_1 rfl 1 rfl ?_
  refine r_iconst (pc := 2) (v := 0) C d_Mo_draw_2 (by decide) ?_
  refine r_iconst (pc := 3) (v := 5) C d_Mo_draw_3 (by decide) ?_
  obtain ⟨q169, hq169, h⟩ := ob h
  refine r_callS (pc := 4) (As := [.int p0, .int (0), .int (5)]) (rest := [.ref (ad 11)]) (st1 := [.int q169, .ref (ad 11)]) hE gg_good C hX (c_Mo_in_S hE hq169) mm_32 mm_33 mm_10 mm_34 hd_Mo_in ⟨⟨(Nat.le_of_ble_eq_true rfl), (Nat.le_of_ble_eq_true rfl)⟩, (Nat.le_of_ble_eq_true rfl), (Nat.le_of_ble_eq_true rfl)⟩ (Nat.le_of_ble_eq_true rfl) rfl rfl d_Mo_draw_4 ?_
  refine r_if_eq (pc := 7) (tgt := 14) C d_Mo_draw_7 (by decide) (fun c232 => ?_) (fun c232 => ?_)
  · replace h := ip c232 h
    refine r_iconst (pc := 14) (v := 1) C d_Mo_draw_14 (by decide) ?_
    refine r_loc (lv' := [(0, .ref (ad 11)), (1, .int p0)]) [0, 1] rfl ?_
    exact vj_Mo_draw_15_M hE C hr hX (p0, 1, mk, mu, mz, mo, md, mr) h
  · replace h := iN c232 h
    refine r_iconst (pc := 10) (v := 0) C d_Mo_draw_10 (by decide) ?_
    refine r_goto (pc := 11) (tgt := 15) C d_Mo_draw_11 (by decide) ?_
    refine r_loc (lv' := [(0, .ref (ad 11)), (1, .int p0)]) [0, 1] rfl ?_
    exact vj_Mo_draw_15_M hE C hr hX (p0, 0, mk, mu, mz, mo, md, mr) h
def f_Mo_again (p0 : Int64) : Option (Int32 × Int64) :=
  some (0, p0)
abbrev rm_Mo_again : Room := { frames := 0, cells := 0, slots := 0, locals := 0 }
theorem hd_Mo_again : y_Mo_again.cls ≠ "java/lang/invoke/MethodHandle" ∧ y_Mo_again.cls ≠ "java/lang/invoke/VarHandle" ∧ (parseMethodDescriptor y_Mo_again.desc).map (fun d => d.parameters.length) = some 1 := by decide +kernel
set_option maxHeartbeats 4000000 in
set_option maxRecDepth 100000 in
theorem c_Mo_again_M {l : Launch} {E : State → Heap → Prop} {D : va_G} {A : Nat → Prop} {cI cZ cJ : ClassId} (hE : stb A E) {ad : Nat → Nat} {mk : Int32} {mu : Int64} {mz : Int32} {mw : Int32} {mo : (Nat → Int32)} {md : MD} {mr : MR} {mp : MP} {rest : va_W} {p0 : Int64} {q : Int32 × Int64} (h : f_Mo_again p0 = some q) : cm l E D clsA (TY cI cZ cJ) A GG y_Mo_again b_Mo_again 3 none rm_Mo_again [.ref (ad 11), .long p0] (WM ad cI cZ mk mu mz mw mo md mr mp rest) none (WM ad cI cZ q.1 q.2 mz mw mo md mr mp rest) := by
  refine r_met (own := R_Mo) rfl (by decide) (Nat.le_of_ble_eq_true rfl) rfl ?_
  intro p e sg m args below meth c C hr hnm hX
  unfold f_Mo_again at h
  refine r_aload_n (pc := 0) C d_Mo_again_0 rfl 0 rfl ?_
  refine r_iconst (pc := 1) (v := 0) C d_Mo_again_1 (by decide) ?_
  refine r_put (pc := 2) (ty := .int) (ws' := WM ad cI cZ (0) mu mz mw mo md mr mp rest) C hin_Mo t_Mo t_Mo_ok n_Mo 11 rfl rfl 0 (by decide) mm_0 rfl rfl pd_I rfl rfl (Nat.le_of_ble_eq_true rfl) rfl d_Mo_again_2 ?_
  refine r_aload_n (pc := 5) C d_Mo_again_5 rfl 0 rfl ?_
  refine r_lload_n (pc := 6) C d_Mo_again_6 rfl 1 rfl ?_
  refine r_put (pc := 7) (ty := .long) (ws' := WM ad cI cZ (0) p0 mz mw mo md mr mp rest) C hin_Mo t_Mo t_Mo_ok n_Mo 11 rfl rfl 1 (by decide) mm_3 rfl rfl pd_J rfl rfl (Nat.le_of_ble_eq_true rfl) rfl d_Mo_again_7 ?_
  cases h
  exact r_vret (pc := 10) C hr rfl rfl d_Mo_again_10
def f_Mo_isPart (md : MD) (p0 : Int32) : Option (Int32) :=
  Option.bind (f_Mo_in p0 (0) (md.1 - (1 : Int32))) (fun q233 => (if q233 = 0 ∨ q233 = 1 then some q233 else none))
abbrev rm_Mo_isPart : Room := { frames := 1, cells := 0, slots := 0, locals := 22 }
theorem hd_Mo_isPart : y_Mo_isPart.cls ≠ "java/lang/invoke/MethodHandle" ∧ y_Mo_isPart.cls ≠ "java/lang/invoke/VarHandle" ∧ (parseMethodDescriptor y_Mo_isPart.desc).map (fun d => d.parameters.length) = some 1 := by decide +kernel
set_option maxHeartbeats 4000000 in
set_option maxRecDepth 100000 in
theorem c_Mo_isPart_M {l : Launch} {E : State → Heap → Prop} {D : va_G} {A : Nat → Prop} {cI cZ cJ : ClassId} (hE : stb A E) {ad : Nat → Nat} {mk : Int32} {mu : Int64} {mz : Int32} {mw : Int32} {mo : (Nat → Int32)} {md : MD} {mr : MR} {mp : MP} {rest : va_W} {p0 : Int32} {q : Int32} (h : f_Mo_isPart md p0 = some q) : cm l E D clsA (TY cI cZ cJ) A GG y_Mo_isPart b_Mo_isPart 2 (some .boolean) rm_Mo_isPart [.ref (ad 11), .int p0] (WM ad cI cZ mk mu mz mw mo md mr mp rest) (some (.int q)) (WM ad cI cZ mk mu mz mw mo md mr mp rest) := by
  refine r_met (own := R_Mo) rfl (by decide) (Nat.le_of_ble_eq_true rfl) rfl ?_
  intro p e sg m args below meth c C hr hnm hX
  unfold f_Mo_isPart at h
  refine r_iload_n (pc := 0) C d_Mo_isPart_0 rfl 1 rfl ?_
  refine r_iconst (pc := 1) (v := 0) C d_Mo_isPart_1 (by decide) ?_
  refine r_aload_n (pc := 2) C d_Mo_isPart_2 rfl 0 rfl ?_
  refine r_get (pc := 3) (v := .int md.1) C hin_Mo 11 rfl rfl 4 (by decide) mm_26 rfl rfl d_Mo_isPart_3 ?_
  refine r_iconst (pc := 6) (v := 1) C d_Mo_isPart_6 (by decide) ?_
  refine r_isub (pc := 7) C d_Mo_isPart_7 ?_
  obtain ⟨q233, hq233, h⟩ := ob h
  refine r_callS (pc := 8) (As := [.int p0, .int (0), .int (md.1 - (1 : Int32))]) (rest := []) (st1 := [.int q233]) hE gg_good C hX (c_Mo_in_S hE hq233) mm_32 mm_33 mm_10 mm_34 hd_Mo_in ⟨⟨(Nat.le_of_ble_eq_true rfl), (Nat.le_of_ble_eq_true rfl)⟩, (Nat.le_of_ble_eq_true rfl), (Nat.le_of_ble_eq_true rfl)⟩ (Nat.le_of_ble_eq_true rfl) rfl rfl d_Mo_isPart_8 ?_
  obtain ⟨hb234, h⟩ := ig h
  cases h
  exact r_iret (pc := 11) C hr (nb01 hb234) rfl rfl d_Mo_isPart_11
def f_Mo_kindOf (md : MD) (p0 : Int32) : Option (Int32) :=
  (if md.2.1 ≤ p0 then (if md.2.1 + md.2.2.1 ≤ p0 then some (2) else some (1)) else some (0))
abbrev rm_Mo_kindOf : Room := { frames := 0, cells := 0, slots := 0, locals := 0 }
theorem hd_Mo_kindOf : y_Mo_kindOf.cls ≠ "java/lang/invoke/MethodHandle" ∧ y_Mo_kindOf.cls ≠ "java/lang/invoke/VarHandle" ∧ (parseMethodDescriptor y_Mo_kindOf.desc).map (fun d => d.parameters.length) = some 1 := by decide +kernel
set_option maxHeartbeats 4000000 in
set_option maxRecDepth 100000 in
theorem c_Mo_kindOf_M {l : Launch} {E : State → Heap → Prop} {D : va_G} {A : Nat → Prop} {cI cZ cJ : ClassId} (hE : stb A E) {ad : Nat → Nat} {mk : Int32} {mu : Int64} {mz : Int32} {mw : Int32} {mo : (Nat → Int32)} {md : MD} {mr : MR} {mp : MP} {rest : va_W} {p0 : Int32} {q : Int32} (h : f_Mo_kindOf md p0 = some q) : cm l E D clsA (TY cI cZ cJ) A GG y_Mo_kindOf b_Mo_kindOf 2 (some .int) rm_Mo_kindOf [.ref (ad 11), .int p0] (WM ad cI cZ mk mu mz mw mo md mr mp rest) (some (.int q)) (WM ad cI cZ mk mu mz mw mo md mr mp rest) := by
  refine r_met (own := R_Mo) rfl (by decide) (Nat.le_of_ble_eq_true rfl) rfl ?_
  intro p e sg m args below meth c C hr hnm hX
  unfold f_Mo_kindOf at h
  refine r_iload_n (pc := 0) C d_Mo_kindOf_0 rfl 1 rfl ?_
  refine r_aload_n (pc := 1) C d_Mo_kindOf_1 rfl 0 rfl ?_
  refine r_get (pc := 2) (v := .int md.2.1) C hin_Mo 11 rfl rfl 6 (by decide) mm_16 rfl rfl d_Mo_kindOf_2 ?_
  refine r_icmp_ge (pc := 5) (tgt := 12) C d_Mo_kindOf_5 (by decide) (fun c238 => ?_) (fun c238 => ?_)
  · replace h := ip c238 h
    refine r_iload_n (pc := 12) C d_Mo_kindOf_12 rfl 1 rfl ?_
    refine r_aload_n (pc := 13) C d_Mo_kindOf_13 rfl 0 rfl ?_
    refine r_get (pc := 14) (v := .int md.2.1) C hin_Mo 11 rfl rfl 6 (by decide) mm_16 rfl rfl d_Mo_kindOf_14 ?_
    refine r_aload_n (pc := 17) C d_Mo_kindOf_17 rfl 0 rfl ?_
    refine r_get (pc := 18) (v := .int md.2.2.1) C hin_Mo 11 rfl rfl 8 (by decide) mm_18 rfl rfl d_Mo_kindOf_18 ?_
    refine r_iadd (pc := 21) C d_Mo_kindOf_21 ?_
    refine r_icmp_ge (pc := 22) (tgt := 29) C d_Mo_kindOf_22 (by decide) (fun c237 => ?_) (fun c237 => ?_)
    · replace h := ip c237 h
      refine r_iconst (pc := 29) (v := 2) C d_Mo_kindOf_29 (by decide) ?_
      cases h
      exact r_iret (pc := 30) C hr rfl rfl rfl d_Mo_kindOf_30
    · replace h := iN c237 h
      refine r_iconst (pc := 25) (v := 1) C d_Mo_kindOf_25 (by decide) ?_
      refine r_goto (pc := 26) (tgt := 30) C d_Mo_kindOf_26 (by decide) ?_
      cases h
      exact r_iret (pc := 30) C hr rfl rfl rfl d_Mo_kindOf_30
  · replace h := iN c238 h
    refine r_iconst (pc := 8) (v := 0) C d_Mo_kindOf_8 (by decide) ?_
    refine r_goto (pc := 9) (tgt := 30) C d_Mo_kindOf_9 (by decide) ?_
    cases h
    exact r_iret (pc := 30) C hr rfl rfl rfl d_Mo_kindOf_30
def f_Mo_numberOf (md : MD) (p0 : Int32) : Option (Int32) :=
  (if md.2.1 ≤ p0 then (if md.2.1 + md.2.2.1 ≤ p0 then some ((p0 - md.2.1) - md.2.2.1) else some (p0 - md.2.1)) else some p0)
abbrev rm_Mo_numberOf : Room := { frames := 0, cells := 0, slots := 0, locals := 0 }
theorem hd_Mo_numberOf : y_Mo_numberOf.cls ≠ "java/lang/invoke/MethodHandle" ∧ y_Mo_numberOf.cls ≠ "java/lang/invoke/VarHandle" ∧ (parseMethodDescriptor y_Mo_numberOf.desc).map (fun d => d.parameters.length) = some 1 := by decide +kernel
set_option maxHeartbeats 4000000 in
set_option maxRecDepth 100000 in
theorem c_Mo_numberOf_M {l : Launch} {E : State → Heap → Prop} {D : va_G} {A : Nat → Prop} {cI cZ cJ : ClassId} (hE : stb A E) {ad : Nat → Nat} {mk : Int32} {mu : Int64} {mz : Int32} {mw : Int32} {mo : (Nat → Int32)} {md : MD} {mr : MR} {mp : MP} {rest : va_W} {p0 : Int32} {q : Int32} (h : f_Mo_numberOf md p0 = some q) : cm l E D clsA (TY cI cZ cJ) A GG y_Mo_numberOf b_Mo_numberOf 2 (some .int) rm_Mo_numberOf [.ref (ad 11), .int p0] (WM ad cI cZ mk mu mz mw mo md mr mp rest) (some (.int q)) (WM ad cI cZ mk mu mz mw mo md mr mp rest) := by
  refine r_met (own := R_Mo) rfl (by decide) (Nat.le_of_ble_eq_true rfl) rfl ?_
  intro p e sg m args below meth c C hr hnm hX
  unfold f_Mo_numberOf at h
  refine r_iload_n (pc := 0) C d_Mo_numberOf_0 rfl 1 rfl ?_
  refine r_aload_n (pc := 1) C d_Mo_numberOf_1 rfl 0 rfl ?_
  refine r_get (pc := 2) (v := .int md.2.1) C hin_Mo 11 rfl rfl 6 (by decide) mm_16 rfl rfl d_Mo_numberOf_2 ?_
  refine r_icmp_ge (pc := 5) (tgt := 12) C d_Mo_numberOf_5 (by decide) (fun c241 => ?_) (fun c241 => ?_)
  · replace h := ip c241 h
    refine r_iload_n (pc := 12) C d_Mo_numberOf_12 rfl 1 rfl ?_
    refine r_aload_n (pc := 13) C d_Mo_numberOf_13 rfl 0 rfl ?_
    refine r_get (pc := 14) (v := .int md.2.1) C hin_Mo 11 rfl rfl 6 (by decide) mm_16 rfl rfl d_Mo_numberOf_14 ?_
    refine r_aload_n (pc := 17) C d_Mo_numberOf_17 rfl 0 rfl ?_
    refine r_get (pc := 18) (v := .int md.2.2.1) C hin_Mo 11 rfl rfl 8 (by decide) mm_18 rfl rfl d_Mo_numberOf_18 ?_
    refine r_iadd (pc := 21) C d_Mo_numberOf_21 ?_
    refine r_icmp_ge (pc := 22) (tgt := 34) C d_Mo_numberOf_22 (by decide) (fun c240 => ?_) (fun c240 => ?_)
    · replace h := ip c240 h
      refine r_iload_n (pc := 34) C d_Mo_numberOf_34 rfl 1 rfl ?_
      refine r_aload_n (pc := 35) C d_Mo_numberOf_35 rfl 0 rfl ?_
      refine r_get (pc := 36) (v := .int md.2.1) C hin_Mo 11 rfl rfl 6 (by decide) mm_16 rfl rfl d_Mo_numberOf_36 ?_
      refine r_isub (pc := 39) C d_Mo_numberOf_39 ?_
      refine r_aload_n (pc := 40) C d_Mo_numberOf_40 rfl 0 rfl ?_
      refine r_get (pc := 41) (v := .int md.2.2.1) C hin_Mo 11 rfl rfl 8 (by decide) mm_18 rfl rfl d_Mo_numberOf_41 ?_
      refine r_isub (pc := 44) C d_Mo_numberOf_44 ?_
      cases h
      exact r_iret (pc := 45) C hr rfl rfl rfl d_Mo_numberOf_45
    · replace h := iN c240 h
      refine r_iload_n (pc := 25) C d_Mo_numberOf_25 rfl 1 rfl ?_
      refine r_aload_n (pc := 26) C d_Mo_numberOf_26 rfl 0 rfl ?_
      refine r_get (pc := 27) (v := .int md.2.1) C hin_Mo 11 rfl rfl 6 (by decide) mm_16 rfl rfl d_Mo_numberOf_27 ?_
      refine r_isub (pc := 30) C d_Mo_numberOf_30 ?_
      refine r_goto (pc := 31) (tgt := 45) C d_Mo_numberOf_31 (by decide) ?_
      cases h
      exact r_iret (pc := 45) C hr rfl rfl rfl d_Mo_numberOf_45
  · replace h := iN c241 h
    refine r_iload_n (pc := 8) C d_Mo_numberOf_8 rfl 1 rfl ?_
    refine r_goto (pc := 9) (tgt := 45) C d_Mo_numberOf_9 (by decide) ?_
    cases h
    exact r_iret (pc := 45) C hr rfl rfl rfl d_Mo_numberOf_45
