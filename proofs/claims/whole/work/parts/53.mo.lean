def bd_Mo_goThrough_2 (kx : Int32 × MP → Option (Int32 × MP)) (rec : Int32 × MP → Option (Int32 × MP)) (z : Int32 × MP) : Option (Int32 × MP) :=
  (if (64 : Int32) ≤ z.1 then kx (z.1, z.2) else (if (z.1 < 0 ∨ 64 ≤ z.1.toNatClampNeg) then none else rec (z.1 + 1, (upd z.2.1 z.1.toNatClampNeg (0), z.2.2))))
def bd_Mo_goThrough_23 (kx : Int32 × MP → Option (Int32 × MP)) (rec : Int32 × MP → Option (Int32 × MP)) (z : Int32 × MP) : Option (Int32 × MP) :=
  (if (8 : Int32) ≤ z.1 then kx (z.1, z.2) else (if (z.1 < 0 ∨ 8 ≤ z.1.toNatClampNeg) then none else rec (z.1 + 1, (z.2.1, upd z.2.2 z.1.toNatClampNeg (0)))))
def jn_Mo_goThrough_323 (md : MD) (kx : Int32 × Int32 × Int32 × Int32 × Int32 × MP → Option (Int32 × MP)) (rec : Int32 × Int32 × Int32 × Int32 × Int32 × MP → Option (Int32 × MP)) (z : Int32 × Int32 × Int32 × Int32 × Int32 × Int32 × Int32 × Int32 × MP) : Option (Int32 × MP) :=
  (if (z.2.2.2.2.1 < 0 ∨ 24 ≤ z.2.2.2.2.1.toNatClampNeg) then none else (if md.2.2.2.2.2.2.2.2.2.2 z.2.2.2.2.1.toNatClampNeg = 0 then rec (z.1, z.2.2.2.2.1, z.2.2.1, z.2.2.2.1, z.2.2.2.2.1 + 1, z.2.2.2.2.2.2.2.2) else rec (z.1 ||| (8 : Int32), z.2.2.2.2.1, z.2.2.1, z.2.2.2.1, z.2.2.2.2.1 + 1, z.2.2.2.2.2.2.2.2)))
def jn_Mo_goThrough_250 (md : MD) (kx : Int32 × Int32 × Int32 × Int32 × Int32 × MP → Option (Int32 × MP)) (rec : Int32 × Int32 × Int32 × Int32 × Int32 × MP → Option (Int32 × MP)) (z : Int32 × Int32 × Int32 × Int32 × Int32 × Int32 × Int32 × Int32 × MP) : Option (Int32 × MP) :=
  (if z.2.1 = (-1) then (jn_Mo_goThrough_323 md kx rec (z.1, z.2.1, z.2.2.1, z.2.2.2.1, z.2.2.2.2.1, z.2.2.2.2.2.1, z.2.2.2.2.2.2.1, z.2.2.2.2.2.2.2.1, z.2.2.2.2.2.2.2.2)) else (if (z.2.1 < 0 ∨ 24 ≤ z.2.1.toNatClampNeg) then none else (if (z.2.2.2.2.1 < 0 ∨ 24 ≤ z.2.2.2.2.1.toNatClampNeg) then none else (if md.2.2.2.2.2.2.1 z.2.1.toNatClampNeg = md.2.2.2.2.2.2.1 z.2.2.2.2.1.toNatClampNeg then (if (z.2.1 < 0 ∨ 24 ≤ z.2.1.toNatClampNeg) then none else (if (z.2.2.2.2.1 < 0 ∨ 24 ≤ z.2.2.2.2.1.toNatClampNeg) then none else (if md.2.2.2.2.2.2.2.1 z.2.1.toNatClampNeg = md.2.2.2.2.2.2.2.1 z.2.2.2.2.1.toNatClampNeg then (if (z.2.1 < 0 ∨ 24 ≤ z.2.1.toNatClampNeg) then none else (if (z.2.2.2.2.1 < 0 ∨ 24 ≤ z.2.2.2.2.1.toNatClampNeg) then none else (if md.2.2.2.2.2.2.2.2.1 z.2.1.toNatClampNeg = md.2.2.2.2.2.2.2.2.1 z.2.2.2.2.1.toNatClampNeg then (if (z.2.1 < 0 ∨ 24 ≤ z.2.1.toNatClampNeg) then none else (if (z.2.2.2.2.1 < 0 ∨ 24 ≤ z.2.2.2.2.1.toNatClampNeg) then none else (if md.2.2.2.2.2.2.2.2.2.1 z.2.1.toNatClampNeg = md.2.2.2.2.2.2.2.2.2.1 z.2.2.2.2.1.toNatClampNeg then (jn_Mo_goThrough_323 md kx rec (z.1, z.2.1, z.2.2.1, z.2.2.2.1, z.2.2.2.2.1, z.2.2.2.2.2.1, z.2.2.2.2.2.2.1, z.2.2.2.2.2.2.2.1, z.2.2.2.2.2.2.2.2)) else (jn_Mo_goThrough_323 md kx rec (z.1 ||| (4 : Int32), z.2.1, z.2.2.1, z.2.2.2.1, z.2.2.2.2.1, z.2.2.2.2.2.1, z.2.2.2.2.2.2.1, z.2.2.2.2.2.2.2.1, z.2.2.2.2.2.2.2.2))))) else (jn_Mo_goThrough_323 md kx rec (z.1, z.2.1, z.2.2.1, z.2.2.2.1, z.2.2.2.2.1, z.2.2.2.2.2.1, z.2.2.2.2.2.2.1, z.2.2.2.2.2.2.2.1, z.2.2.2.2.2.2.2.2))))) else (jn_Mo_goThrough_323 md kx rec (z.1, z.2.1, z.2.2.1, z.2.2.2.1, z.2.2.2.2.1, z.2.2.2.2.2.1, z.2.2.2.2.2.2.1, z.2.2.2.2.2.2.2.1, z.2.2.2.2.2.2.2.2))))) else (jn_Mo_goThrough_323 md kx rec (z.1, z.2.1, z.2.2.1, z.2.2.2.1, z.2.2.2.2.1, z.2.2.2.2.2.1, z.2.2.2.2.2.2.1, z.2.2.2.2.2.2.2.1, z.2.2.2.2.2.2.2.2))))))
def jn_Mo_goThrough_236 (md : MD) (kx : Int32 × Int32 × Int32 × Int32 × Int32 × MP → Option (Int32 × MP)) (rec : Int32 × Int32 × Int32 × Int32 × Int32 × MP → Option (Int32 × MP)) (z : Int32 × Int32 × Int32 × Int32 × Int32 × Int32 × Int32 × Int32 × MP) : Option (Int32 × MP) :=
  (if (z.2.2.2.2.2.2.1 < 0 ∨ 64 ≤ z.2.2.2.2.2.2.1.toNatClampNeg) then none else (if (0 : Int32) ≤ z.2.2.2.2.2.2.2.2.1 z.2.2.2.2.2.2.1.toNatClampNeg then (jn_Mo_goThrough_250 md kx rec (z.1, z.2.1, z.2.2.1, z.2.2.2.1, z.2.2.2.2.1, z.2.2.2.2.2.1, z.2.2.2.2.2.2.1, z.2.2.2.2.2.2.2.1, z.2.2.2.2.2.2.2.2)) else (jn_Mo_goThrough_250 md kx rec (z.1 ||| (2 : Int32), z.2.1, z.2.2.1, z.2.2.2.1, z.2.2.2.2.1, z.2.2.2.2.2.1, z.2.2.2.2.2.2.1, z.2.2.2.2.2.2.2.1, z.2.2.2.2.2.2.2.2))))
def jn_Mo_goThrough_214 (md : MD) (kx : Int32 × Int32 × Int32 × Int32 × Int32 × MP → Option (Int32 × MP)) (rec : Int32 × Int32 × Int32 × Int32 × Int32 × MP → Option (Int32 × MP)) (z : Int32 × Int32 × Int32 × Int32 × Int32 × Int32 × Int32 × Int32 × Int32 × Int32 × MP) : Option (Int32 × MP) :=
  (if (z.2.2.2.2.2.2.2.2.1 < 0 ∨ 8 ≤ z.2.2.2.2.2.2.2.2.1.toNatClampNeg) then none else (if (z.2.2.2.2.1 < 0 ∨ 24 ≤ z.2.2.2.2.1.toNatClampNeg) then none else (if ((md.2.2.2.2.2.2.1 z.2.2.2.2.1.toNatClampNeg) < 0 ∨ 8 ≤ (md.2.2.2.2.2.2.1 z.2.2.2.2.1.toNatClampNeg).toNatClampNeg) then none else (if z.2.2.2.2.2.2.2.1 ≤ md.2.2.2.2.1 (md.2.2.2.2.2.2.1 z.2.2.2.2.1.toNatClampNeg).toNatClampNeg then (jn_Mo_goThrough_236 md kx rec (z.1, z.2.1, z.2.2.1, z.2.2.2.1, z.2.2.2.2.1, z.2.2.2.2.2.1, z.2.2.2.2.2.2.1, z.2.2.2.2.2.2.2.1, (z.2.2.2.2.2.2.2.2.2.2.1, upd z.2.2.2.2.2.2.2.2.2.2.2 z.2.2.2.2.2.2.2.2.1.toNatClampNeg z.2.2.2.2.2.2.2.2.2.1))) else (jn_Mo_goThrough_236 md kx rec (z.1 ||| (1 : Int32), z.2.1, z.2.2.1, z.2.2.2.1, z.2.2.2.2.1, z.2.2.2.2.2.1, z.2.2.2.2.2.2.1, z.2.2.2.2.2.2.2.1, (z.2.2.2.2.2.2.2.2.2.2.1, upd z.2.2.2.2.2.2.2.2.2.2.2 z.2.2.2.2.2.2.2.2.1.toNatClampNeg z.2.2.2.2.2.2.2.2.2.1)))))))
def jn_Mo_goThrough_103 (md : MD) (kx : Int32 × Int32 × Int32 × Int32 × Int32 × MP → Option (Int32 × MP)) (rec : Int32 × Int32 × Int32 × Int32 × Int32 × MP → Option (Int32 × MP)) (z : Int32 × Int32 × Int32 × Int32 × Int32 × Int32 × MP) : Option (Int32 × MP) :=
  (if (z.2.2.2.2.1 < 0 ∨ 24 ≤ z.2.2.2.2.1.toNatClampNeg) then none else (if (z.2.2.2.2.1 < 0 ∨ 24 ≤ z.2.2.2.2.1.toNatClampNeg) then none else (if ((((8 : Int32) * (md.2.2.2.2.2.2.1 z.2.2.2.2.1.toNatClampNeg)) + (md.2.2.2.2.2.2.2.1 z.2.2.2.2.1.toNatClampNeg)) < 0 ∨ 64 ≤ (((8 : Int32) * (md.2.2.2.2.2.2.1 z.2.2.2.2.1.toNatClampNeg)) + (md.2.2.2.2.2.2.2.1 z.2.2.2.2.1.toNatClampNeg)).toNatClampNeg) then none else (if ((((8 : Int32) * (md.2.2.2.2.2.2.1 z.2.2.2.2.1.toNatClampNeg)) + (md.2.2.2.2.2.2.2.1 z.2.2.2.2.1.toNatClampNeg)) < 0 ∨ 64 ≤ (((8 : Int32) * (md.2.2.2.2.2.2.1 z.2.2.2.2.1.toNatClampNeg)) + (md.2.2.2.2.2.2.2.1 z.2.2.2.2.1.toNatClampNeg)).toNatClampNeg) then none else (if (z.2.2.2.2.1 < 0 ∨ 24 ≤ z.2.2.2.2.1.toNatClampNeg) then none else (if (z.2.2.2.2.1 < 0 ∨ 24 ≤ z.2.2.2.2.1.toNatClampNeg) then none else Option.bind (f_Mo_gramsAt md (upd z.2.2.2.2.2.2.1 (((8 : Int32) * (md.2.2.2.2.2.2.1 z.2.2.2.2.1.toNatClampNeg)) + (md.2.2.2.2.2.2.2.1 z.2.2.2.2.1.toNatClampNeg)).toNatClampNeg ((z.2.2.2.2.2.2.1 (((8 : Int32) * (md.2.2.2.2.2.2.1 z.2.2.2.2.1.toNatClampNeg)) + (md.2.2.2.2.2.2.2.1 z.2.2.2.2.1.toNatClampNeg)).toNatClampNeg) + z.2.2.2.2.2.1), z.2.2.2.2.2.2.2) (md.2.2.2.2.2.2.1 z.2.2.2.2.1.toNatClampNeg)) (fun q482 => (if (z.2.2.2.2.1 < 0 ∨ 24 ≤ z.2.2.2.2.1.toNatClampNeg) then none else (if (z.2.2.2.2.1 < 0 ∨ 24 ≤ z.2.2.2.2.1.toNatClampNeg) then none else (if ((md.2.2.2.2.2.2.1 z.2.2.2.2.1.toNatClampNeg) < 0 ∨ 8 ≤ (md.2.2.2.2.2.2.1 z.2.2.2.2.1.toNatClampNeg).toNatClampNeg) then none else (if q482 ≤ z.2.2.2.2.2.2.2 (md.2.2.2.2.2.2.1 z.2.2.2.2.1.toNatClampNeg).toNatClampNeg then (if (z.2.2.2.2.1 < 0 ∨ 24 ≤ z.2.2.2.2.1.toNatClampNeg) then none else (if ((md.2.2.2.2.2.2.1 z.2.2.2.2.1.toNatClampNeg) < 0 ∨ 8 ≤ (md.2.2.2.2.2.2.1 z.2.2.2.2.1.toNatClampNeg).toNatClampNeg) then none else (jn_Mo_goThrough_214 md kx rec (z.1, z.2.1, z.2.2.1 + z.2.2.2.2.2.1, z.2.2.2.1 ||| ((1 : Int32) <<< ((md.2.2.2.2.2.2.1 z.2.2.2.2.1.toNatClampNeg) &&& 31)), z.2.2.2.2.1, z.2.2.2.2.2.1, ((8 : Int32) * (md.2.2.2.2.2.2.1 z.2.2.2.2.1.toNatClampNeg)) + (md.2.2.2.2.2.2.2.1 z.2.2.2.2.1.toNatClampNeg), q482, md.2.2.2.2.2.2.1 z.2.2.2.2.1.toNatClampNeg, z.2.2.2.2.2.2.2 (md.2.2.2.2.2.2.1 z.2.2.2.2.1.toNatClampNeg).toNatClampNeg, (upd z.2.2.2.2.2.2.1 (((8 : Int32) * (md.2.2.2.2.2.2.1 z.2.2.2.2.1.toNatClampNeg)) + (md.2.2.2.2.2.2.2.1 z.2.2.2.2.1.toNatClampNeg)).toNatClampNeg ((z.2.2.2.2.2.2.1 (((8 : Int32) * (md.2.2.2.2.2.2.1 z.2.2.2.2.1.toNatClampNeg)) + (md.2.2.2.2.2.2.2.1 z.2.2.2.2.1.toNatClampNeg)).toNatClampNeg) + z.2.2.2.2.2.1), z.2.2.2.2.2.2.2))))) else (jn_Mo_goThrough_214 md kx rec (z.1, z.2.1, z.2.2.1 + z.2.2.2.2.2.1, z.2.2.2.1 ||| ((1 : Int32) <<< ((md.2.2.2.2.2.2.1 z.2.2.2.2.1.toNatClampNeg) &&& 31)), z.2.2.2.2.1, z.2.2.2.2.2.1, ((8 : Int32) * (md.2.2.2.2.2.2.1 z.2.2.2.2.1.toNatClampNeg)) + (md.2.2.2.2.2.2.2.1 z.2.2.2.2.1.toNatClampNeg), q482, md.2.2.2.2.2.2.1 z.2.2.2.2.1.toNatClampNeg, q482, (upd z.2.2.2.2.2.2.1 (((8 : Int32) * (md.2.2.2.2.2.2.1 z.2.2.2.2.1.toNatClampNeg)) + (md.2.2.2.2.2.2.2.1 z.2.2.2.2.1.toNatClampNeg)).toNatClampNeg ((z.2.2.2.2.2.2.1 (((8 : Int32) * (md.2.2.2.2.2.2.1 z.2.2.2.2.1.toNatClampNeg)) + (md.2.2.2.2.2.2.2.1 z.2.2.2.2.1.toNatClampNeg)).toNatClampNeg) + z.2.2.2.2.2.1), z.2.2.2.2.2.2.2))))))))))))))
def bd_Mo_goThrough_54 (mo : (Nat → Int32)) (md : MD) (kx : Int32 × Int32 × Int32 × Int32 × Int32 × MP → Option (Int32 × MP)) (rec : Int32 × Int32 × Int32 × Int32 × Int32 × MP → Option (Int32 × MP)) (z : Int32 × Int32 × Int32 × Int32 × Int32 × MP) : Option (Int32 × MP) :=
  (if md.2.2.2.1 ≤ z.2.2.2.2.1 then kx (z.1, z.2.1, z.2.2.1, z.2.2.2.1, z.2.2.2.2.1, z.2.2.2.2.2) else Option.bind (f_Mo_counts mo md z.2.2.2.2.1) (fun q481 => (if q481 = 0 then rec (z.1, z.2.1, z.2.2.1, z.2.2.2.1, z.2.2.2.2.1 + 1, z.2.2.2.2.2) else (if (z.2.2.2.2.1 < 0 ∨ 24 ≤ z.2.2.2.2.1.toNatClampNeg) then none else (if md.2.2.2.2.2.2.2.2.2.1 z.2.2.2.2.1.toNatClampNeg = 0 then (if (z.2.2.2.2.1 < 0 ∨ 24 ≤ z.2.2.2.2.1.toNatClampNeg) then none else (jn_Mo_goThrough_103 md kx rec (z.1, z.2.1, z.2.2.1, z.2.2.2.1, z.2.2.2.2.1, md.2.2.2.2.2.2.2.2.1 z.2.2.2.2.1.toNatClampNeg, z.2.2.2.2.2))) else (if (z.2.2.2.2.1 < 0 ∨ 24 ≤ z.2.2.2.2.1.toNatClampNeg) then none else (jn_Mo_goThrough_103 md kx rec (z.1, z.2.1, z.2.2.1, z.2.2.2.1, z.2.2.2.2.1, -(md.2.2.2.2.2.2.2.2.1 z.2.2.2.2.1.toNatClampNeg), z.2.2.2.2.2))))))))
def bd_Mo_goThrough_361 (mo : (Nat → Int32)) (md : MD) (kx : Int32 × Int32 × Int32 × Int32 × Int32 × MP → Option (Int32 × MP)) (rec : Int32 × Int32 × Int32 × Int32 × Int32 × MP → Option (Int32 × MP)) (z : Int32 × Int32 × Int32 × Int32 × Int32 × MP) : Option (Int32 × MP) :=
  (if md.2.1 ≤ z.2.2.2.2.1 then kx (z.1, z.2.1, z.2.2.1, z.2.2.2.1, z.2.2.2.2.1, z.2.2.2.2.2) else (if (z.2.2.2.2.1 < 0 ∨ 40 ≤ z.2.2.2.2.1.toNatClampNeg) then none else (if mo z.2.2.2.2.1.toNatClampNeg = 0 then (if (z.2.2.2.1 >>> (z.2.2.2.2.1 &&& 31)) &&& (1 : Int32) = 0 then rec (z.1 ||| (32 : Int32), z.2.1, z.2.2.1, z.2.2.2.1, z.2.2.2.2.1 + 1, z.2.2.2.2.2) else rec (z.1, z.2.1, z.2.2.1, z.2.2.2.1, z.2.2.2.2.1 + 1, z.2.2.2.2.2)) else rec (z.1, z.2.1, z.2.2.1, z.2.2.2.1, z.2.2.2.2.1 + 1, z.2.2.2.2.2))))
def jn_Mo_goThrough_358 (mo : (Nat → Int32)) (md : MD) (z : Int32 × Int32 × Int32 × Int32 × MP) : Option (Int32 × MP) :=
  (itn (bd_Mo_goThrough_361 mo md (fun z572 => some (z572.1, z572.2.2.2.2.2))) 70 (z.1, z.2.1, z.2.2.1, z.2.2.2.1, 0, z.2.2.2.2))
def f_Mo_goThrough (mo : (Nat → Int32)) (md : MD) (mp : MP) : Option (Int32 × MP) :=
  (itn (bd_Mo_goThrough_2 (fun z475 => (itn (bd_Mo_goThrough_23 (fun z480 => (itn (bd_Mo_goThrough_54 mo md (fun z563 => (if (2) = (0 : Int32) then none else (if z563.2.2.1 - z563.2.2.1 / (2) * (2) = 0 then (jn_Mo_goThrough_358 mo md (z563.1, z563.2.1, z563.2.2.1, z563.2.2.2.1, z563.2.2.2.2.2)) else (jn_Mo_goThrough_358 mo md (z563.1 ||| (16 : Int32), z563.2.1, z563.2.2.1, z563.2.2.2.1, z563.2.2.2.2.2)))))) 70 (0, (-1), 0, 0, 0, z480.2)))) 70 (0, z475.2)))) 70 (0, mp))
abbrev rm_Mo_goThrough : Room := { frames := 1, cells := 0, slots := 0, locals := 23 }
theorem hd_Mo_goThrough : y_Mo_goThrough.cls ≠ "java/lang/invoke/MethodHandle" ∧ y_Mo_goThrough.cls ≠ "java/lang/invoke/VarHandle" ∧ (parseMethodDescriptor y_Mo_goThrough.desc).map (fun d => d.parameters.length) = some 0 := by decide +kernel
set_option maxHeartbeats 4000000 in
set_option maxRecDepth 100000 in
theorem vl_Mo_goThrough_2_M {l : Launch} {E : State → Heap → Prop} {D : va_G} {A : Nat → Prop} {cI cZ cJ : ClassId} (hE : stb A E) {ad : Nat → Nat} {mk : Int32} {mu : Int64} {mz : Int32} {mw : Int32} {mo : (Nat → Int32)} {md : MD} {mr : MR} {rest : va_W} {p : Program} {e : Env} {sg : State} {m : MethodId} {args : Array Value} {below : List Frame} {meth : Method} {c : Code} (C : cx p sg m args meth c D clsA (TY cI cZ cJ) A GG R_Mo b_Mo_goThrough 9) (hr : meth.sig.returnType = (some .int)) (hX : E sg sg.heap) {q : Int32 × MP} {kx : Int32 × MP → Option (Int32 × MP)} (K : ∀ z : Int32 × MP, kx z = some q → vv p l e rm_Mo_goThrough sg m args below meth c D clsA A 9 0 0 (MQ below (qcI D clsA A (some (.int q.1)) (WM ad cI cZ mk mu mz mw mo md mr q.2 rest)) args sg rm_Mo_goThrough.cells rm_Mo_goThrough.slots A) 21 [(0, .ref (ad 11)), (1, .int z.1)] [] (WM ad cI cZ mk mu mz mw mo md mr z.2 rest)) :
    ∀ (n : Nat) (z : Int32 × MP), itn (bd_Mo_goThrough_2 kx) n z = some q → vv p l e rm_Mo_goThrough sg m args below meth c D clsA A 9 0 0 (MQ below (qcI D clsA A (some (.int q.1)) (WM ad cI cZ mk mu mz mw mo md mr q.2 rest)) args sg rm_Mo_goThrough.cells rm_Mo_goThrough.slots A) 2 [(0, .ref (ad 11)), (1, .int z.1)] [] (WM ad cI cZ mk mu mz mw mo md mr z.2 rest) := by
  have _ := hE
  intro n
  induction n with
  | zero => intro z h; cases h
  | succ n ih =>
    intro z h
    obtain ⟨zv0, zv1⟩ := z
    replace h : bd_Mo_goThrough_2 kx (itn (bd_Mo_goThrough_2 kx) n) (zv0, zv1) = some q := h
    unfold bd_Mo_goThrough_2 at h
    (try dsimp only at h)
    show vv p l e rm_Mo_goThrough sg m args below meth c D clsA A 9 0 0 (MQ below (qcI D clsA A (some (.int q.1)) (WM ad cI cZ mk mu mz mw mo md mr q.2 rest)) args sg rm_Mo_goThrough.cells rm_Mo_goThrough.slots A) 2 [(0, .ref (ad 11)), (1, .int zv0)] [] (WM ad cI cZ mk mu mz mw mo md mr zv1 rest)
    refine r_iload_n (pc := 2) C d_Mo_goThrough_2 rfl 1 rfl ?_
    refine r_bipush (pc := 3) (v := 64) C d_Mo_goThrough_3 (by decide) ?_
    refine r_icmp_ge (pc := 5) (tgt := 21) C d_Mo_goThrough_5 (by decide) (fun c474 => ?_) (fun c474 => ?_)
    · replace h := ip c474 h
      refine r_loc (lv' := [(0, .ref (ad 11)), (1, .int zv0)]) [0, 1] rfl ?_
      exact K (zv0, zv1) h
    · replace h := iN c474 h
      refine r_aload_n (pc := 8) C d_Mo_goThrough_8 rfl 0 rfl ?_
      refine r_get (pc := 9) (v := .ref (ad 1)) C hin_Mo 11 rfl rfl 18 (by decide) mm_47 rfl rfl d_Mo_goThrough_9 ?_
      refine r_iload_n (pc := 12) C d_Mo_goThrough_12 rfl 1 rfl ?_
      refine r_iconst (pc := 13) (v := 0) C d_Mo_goThrough_13 (by decide) ?_
      obtain ⟨hi473, h⟩ := ign h
      refine r_iast (pc := 14) (ws' := WM ad cI cZ mk mu mz mw mo md mr (upd zv1.1 zv0.toNatClampNeg (0), zv1.2) rest) C 1 0 rfl rfl hi473 rfl d_Mo_goThrough_14 ?_
      refine r_iincK (pc := 15) (w0 := 1) (lv' := [(1, .int (zv0 + 1)), (0, .ref (ad 11))]) C d_Mo_goThrough_15 (by decide) 1 rfl (by decide) rfl ?_
      refine r_goto (pc := 18) (tgt := 2) C d_Mo_goThrough_18 (by decide) ?_
      refine r_loc (lv' := [(0, .ref (ad 11)), (1, .int (zv0 + 1))]) [1, 0] rfl ?_
      exact ih (zv0 + 1, (upd zv1.1 zv0.toNatClampNeg (0), zv1.2)) h
set_option maxHeartbeats 4000000 in
set_option maxRecDepth 100000 in
theorem vl_Mo_goThrough_23_M {l : Launch} {E : State → Heap → Prop} {D : va_G} {A : Nat → Prop} {cI cZ cJ : ClassId} (hE : stb A E) {ad : Nat → Nat} {mk : Int32} {mu : Int64} {mz : Int32} {mw : Int32} {mo : (Nat → Int32)} {md : MD} {mr : MR} {rest : va_W} {p : Program} {e : Env} {sg : State} {m : MethodId} {args : Array Value} {below : List Frame} {meth : Method} {c : Code} (C : cx p sg m args meth c D clsA (TY cI cZ cJ) A GG R_Mo b_Mo_goThrough 9) (hr : meth.sig.returnType = (some .int)) (hX : E sg sg.heap) {q : Int32 × MP} {kx : Int32 × MP → Option (Int32 × MP)} (K : ∀ z : Int32 × MP, kx z = some q → vv p l e rm_Mo_goThrough sg m args below meth c D clsA A 9 0 0 (MQ below (qcI D clsA A (some (.int q.1)) (WM ad cI cZ mk mu mz mw mo md mr q.2 rest)) args sg rm_Mo_goThrough.cells rm_Mo_goThrough.slots A) 42 [(0, .ref (ad 11)), (1, .int z.1)] [] (WM ad cI cZ mk mu mz mw mo md mr z.2 rest)) :
    ∀ (n : Nat) (z : Int32 × MP), itn (bd_Mo_goThrough_23 kx) n z = some q → vv p l e rm_Mo_goThrough sg m args below meth c D clsA A 9 0 0 (MQ below (qcI D clsA A (some (.int q.1)) (WM ad cI cZ mk mu mz mw mo md mr q.2 rest)) args sg rm_Mo_goThrough.cells rm_Mo_goThrough.slots A) 23 [(0, .ref (ad 11)), (1, .int z.1)] [] (WM ad cI cZ mk mu mz mw mo md mr z.2 rest) := by
  have _ := hE
  intro n
  induction n with
  | zero => intro z h; cases h
  | succ n ih =>
    intro z h
    obtain ⟨zv0, zv1⟩ := z
    replace h : bd_Mo_goThrough_23 kx (itn (bd_Mo_goThrough_23 kx) n) (zv0, zv1) = some q := h
    unfold bd_Mo_goThrough_23 at h
    (try dsimp only at h)
    show vv p l e rm_Mo_goThrough sg m args below meth c D clsA A 9 0 0 (MQ below (qcI D clsA A (some (.int q.1)) (WM ad cI cZ mk mu mz mw mo md mr q.2 rest)) args sg rm_Mo_goThrough.cells rm_Mo_goThrough.slots A) 23 [(0, .ref (ad 11)), (1, .int zv0)] [] (WM ad cI cZ mk mu mz mw mo md mr zv1 rest)
    refine r_iload_n (pc := 23) C d_Mo_goThrough_23 rfl 1 rfl ?_
    refine r_bipush (pc := 24) (v := 8) C d_Mo_goThrough_24 (by decide) ?_
    refine r_icmp_ge (pc := 26) (tgt := 42) C d_Mo_goThrough_26 (by decide) (fun c479 => ?_) (fun c479 => ?_)
    · replace h := ip c479 h
      refine r_loc (lv' := [(0, .ref (ad 11)), (1, .int zv0)]) [0, 1] rfl ?_
      exact K (zv0, zv1) h
    · replace h := iN c479 h
      refine r_aload_n (pc := 29) C d_Mo_goThrough_29 rfl 0 rfl ?_
      refine r_get (pc := 30) (v := .ref (ad 0)) C hin_Mo 11 rfl rfl 19 (by decide) mm_48 rfl rfl d_Mo_goThrough_30 ?_
      refine r_iload_n (pc := 33) C d_Mo_goThrough_33 rfl 1 rfl ?_
      refine r_iconst (pc := 34) (v := 0) C d_Mo_goThrough_34 (by decide) ?_
      obtain ⟨hi478, h⟩ := ign h
      refine r_iast (pc := 35) (ws' := WM ad cI cZ mk mu mz mw mo md mr (zv1.1, upd zv1.2 zv0.toNatClampNeg (0)) rest) C 0 0 rfl rfl hi478 rfl d_Mo_goThrough_35 ?_
      refine r_iincK (pc := 36) (w0 := 1) (lv' := [(1, .int (zv0 + 1)), (0, .ref (ad 11))]) C d_Mo_goThrough_36 (by decide) 1 rfl (by decide) rfl ?_
      refine r_goto (pc := 39) (tgt := 23) C d_Mo_goThrough_39 (by decide) ?_
      refine r_loc (lv' := [(0, .ref (ad 11)), (1, .int (zv0 + 1))]) [1, 0] rfl ?_
      exact ih (zv0 + 1, (zv1.1, upd zv1.2 zv0.toNatClampNeg (0))) h
set_option maxHeartbeats 4000000 in
set_option maxRecDepth 100000 in
theorem vj_Mo_goThrough_323_M {l : Launch} {E : State → Heap → Prop} {D : va_G} {A : Nat → Prop} {cI cZ cJ : ClassId} (hE : stb A E) {ad : Nat → Nat} {mk : Int32} {mu : Int64} {mz : Int32} {mw : Int32} {mo : (Nat → Int32)} {md : MD} {mr : MR} {rest : va_W} {p : Program} {e : Env} {sg : State} {m : MethodId} {args : Array Value} {below : List Frame} {meth : Method} {c : Code} (C : cx p sg m args meth c D clsA (TY cI cZ cJ) A GG R_Mo b_Mo_goThrough 9) (hr : meth.sig.returnType = (some .int)) (hX : E sg sg.heap) {q : Int32 × MP} {kx rec : Int32 × Int32 × Int32 × Int32 × Int32 × MP → Option (Int32 × MP)} (K : ∀ z : Int32 × Int32 × Int32 × Int32 × Int32 × MP, kx z = some q → vv p l e rm_Mo_goThrough sg m args below meth c D clsA A 9 0 0 (MQ below (qcI D clsA A (some (.int q.1)) (WM ad cI cZ mk mu mz mw mo md mr q.2 rest)) args sg rm_Mo_goThrough.cells rm_Mo_goThrough.slots A) 347 [(0, .ref (ad 11)), (1, .int z.1), (2, .int z.2.1), (3, .int z.2.2.1), (4, .int z.2.2.2.1), (5, .int z.2.2.2.2.1)] [] (WM ad cI cZ mk mu mz mw mo md mr z.2.2.2.2.2 rest)) (ih : ∀ z : Int32 × Int32 × Int32 × Int32 × Int32 × MP, rec z = some q → vv p l e rm_Mo_goThrough sg m args below meth c D clsA A 9 0 0 (MQ below (qcI D clsA A (some (.int q.1)) (WM ad cI cZ mk mu mz mw mo md mr q.2 rest)) args sg rm_Mo_goThrough.cells rm_Mo_goThrough.slots A) 54 [(0, .ref (ad 11)), (1, .int z.1), (2, .int z.2.1), (3, .int z.2.2.1), (4, .int z.2.2.2.1), (5, .int z.2.2.2.2.1)] [] (WM ad cI cZ mk mu mz mw mo md mr z.2.2.2.2.2 rest)) :
    ∀ z : Int32 × Int32 × Int32 × Int32 × Int32 × Int32 × Int32 × Int32 × MP, jn_Mo_goThrough_323 md kx rec z = some q → vv p l e rm_Mo_goThrough sg m args below meth c D clsA A 9 0 0 (MQ below (qcI D clsA A (some (.int q.1)) (WM ad cI cZ mk mu mz mw mo md mr q.2 rest)) args sg rm_Mo_goThrough.cells rm_Mo_goThrough.slots A) 323 [(0, .ref (ad 11)), (1, .int z.1), (2, .int z.2.1), (3, .int z.2.2.1), (4, .int z.2.2.2.1), (5, .int z.2.2.2.2.1), (6, .int z.2.2.2.2.2.1), (7, .int z.2.2.2.2.2.2.1), (8, .int z.2.2.2.2.2.2.2.1)] [] (WM ad cI cZ mk mu mz mw mo md mr z.2.2.2.2.2.2.2.2 rest) := by
  have _ := hE
  intro z h
  obtain ⟨zv0, zv1, zv2, zv3, zv4, zv5, zv6, zv7, zv8⟩ := z
  unfold jn_Mo_goThrough_323 at h
  (try dsimp only at h)
  show vv p l e rm_Mo_goThrough sg m args below meth c D clsA A 9 0 0 (MQ below (qcI D clsA A (some (.int q.1)) (WM ad cI cZ mk mu mz mw mo md mr q.2 rest)) args sg rm_Mo_goThrough.cells rm_Mo_goThrough.slots A) 323 [(0, .ref (ad 11)), (1, .int zv0), (2, .int zv1), (3, .int zv2), (4, .int zv3), (5, .int zv4), (6, .int zv5), (7, .int zv6), (8, .int zv7)] [] (WM ad cI cZ mk mu mz mw mo md mr zv8 rest)
  refine r_aload_n (pc := 323) C d_Mo_goThrough_323 rfl 0 rfl ?_
  refine r_get (pc := 324) (v := .ref (ad 3)) C hin_Mo 11 rfl rfl 15 (by decide) mm_25 rfl rfl d_Mo_goThrough_324 ?_
  refine r_iload (pc := 327) C d_Mo_goThrough_327 5 rfl ?_
  obtain ⟨hi486, h⟩ := ign h
  refine r_zald (pc := 329) C 3 1 rfl rfl hi486 d_Mo_goThrough_329 ?_
  refine r_if_eq (pc := 330) (tgt := 338) C d_Mo_goThrough_330 (by decide) (fun c485 => ?_) (fun c485 => ?_)
  · replace h := ip c485 h
    refine r_iload (pc := 338) C d_Mo_goThrough_338 5 rfl ?_
    refine r_istore_n (pc := 340) (lv' := [(2, .int zv4), (0, .ref (ad 11)), (1, .int zv0), (3, .int zv2), (4, .int zv3), (5, .int zv4), (6, .int zv5), (7, .int zv6), (8, .int zv7)]) C d_Mo_goThrough_340 rfl (by decide) rfl ?_
    refine r_iincK (pc := 341) (w0 := 1) (lv' := [(5, .int (zv4 + 1)), (2, .int zv4), (0, .ref (ad 11)), (1, .int zv0), (3, .int zv2), (4, .int zv3), (6, .int zv5), (7, .int zv6), (8, .int zv7)]) C d_Mo_goThrough_341 (by decide) 5 rfl (by decide) rfl ?_
    refine r_goto (pc := 344) (tgt := 54) C d_Mo_goThrough_344 (by decide) ?_
    refine r_loc (lv' := [(0, .ref (ad 11)), (1, .int zv0), (2, .int zv4), (3, .int zv2), (4, .int zv3), (5, .int (zv4 + 1))]) [2, 3, 1, 4, 5, 0] rfl ?_
    exact ih (zv0, zv4, zv2, zv3, zv4 + 1, zv8) h
  · replace h := iN c485 h
    refine r_iload_n (pc := 333) C d_Mo_goThrough_333 rfl 1 rfl ?_
    refine r_bipush (pc := 334) (v := 8) C d_Mo_goThrough_334 (by decide) ?_
    refine r_ior (pc := 336) C d_Mo_goThrough_336 ?_
    refine r_istore_n (pc := 337) (lv' := [(1, .int (zv0 ||| (8 : Int32))), (0, .ref (ad 11)), (2, .int zv1), (3, .int zv2), (4, .int zv3), (5, .int zv4), (6, .int zv5), (7, .int zv6), (8, .int zv7)]) C d_Mo_goThrough_337 rfl (by decide) rfl ?_
    refine r_iload (pc := 338) C d_Mo_goThrough_338 5 rfl ?_
    refine r_istore_n (pc := 340) (lv' := [(2, .int zv4), (1, .int (zv0 ||| (8 : Int32))), (0, .ref (ad 11)), (3, .int zv2), (4, .int zv3), (5, .int zv4), (6, .int zv5), (7, .int zv6), (8, .int zv7)]) C d_Mo_goThrough_340 rfl (by decide) rfl ?_
    refine r_iincK (pc := 341) (w0 := 1) (lv' := [(5, .int (zv4 + 1)), (2, .int zv4), (1, .int (zv0 ||| (8 : Int32))), (0, .ref (ad 11)), (3, .int zv2), (4, .int zv3), (6, .int zv5), (7, .int zv6), (8, .int zv7)]) C d_Mo_goThrough_341 (by decide) 5 rfl (by decide) rfl ?_
    refine r_goto (pc := 344) (tgt := 54) C d_Mo_goThrough_344 (by decide) ?_
    refine r_loc (lv' := [(0, .ref (ad 11)), (1, .int (zv0 ||| (8 : Int32))), (2, .int zv4), (3, .int zv2), (4, .int zv3), (5, .int (zv4 + 1))]) [3, 2, 1, 4, 5, 0] rfl ?_
    exact ih (zv0 ||| (8 : Int32), zv4, zv2, zv3, zv4 + 1, zv8) h
set_option maxHeartbeats 4000000 in
set_option maxRecDepth 100000 in
theorem vj_Mo_goThrough_250_M {l : Launch} {E : State → Heap → Prop} {D : va_G} {A : Nat → Prop} {cI cZ cJ : ClassId} (hE : stb A E) {ad : Nat → Nat} {mk : Int32} {mu : Int64} {mz : Int32} {mw : Int32} {mo : (Nat → Int32)} {md : MD} {mr : MR} {rest : va_W} {p : Program} {e : Env} {sg : State} {m : MethodId} {args : Array Value} {below : List Frame} {meth : Method} {c : Code} (C : cx p sg m args meth c D clsA (TY cI cZ cJ) A GG R_Mo b_Mo_goThrough 9) (hr : meth.sig.returnType = (some .int)) (hX : E sg sg.heap) {q : Int32 × MP} {kx rec : Int32 × Int32 × Int32 × Int32 × Int32 × MP → Option (Int32 × MP)} (K : ∀ z : Int32 × Int32 × Int32 × Int32 × Int32 × MP, kx z = some q → vv p l e rm_Mo_goThrough sg m args below meth c D clsA A 9 0 0 (MQ below (qcI D clsA A (some (.int q.1)) (WM ad cI cZ mk mu mz mw mo md mr q.2 rest)) args sg rm_Mo_goThrough.cells rm_Mo_goThrough.slots A) 347 [(0, .ref (ad 11)), (1, .int z.1), (2, .int z.2.1), (3, .int z.2.2.1), (4, .int z.2.2.2.1), (5, .int z.2.2.2.2.1)] [] (WM ad cI cZ mk mu mz mw mo md mr z.2.2.2.2.2 rest)) (ih : ∀ z : Int32 × Int32 × Int32 × Int32 × Int32 × MP, rec z = some q → vv p l e rm_Mo_goThrough sg m args below meth c D clsA A 9 0 0 (MQ below (qcI D clsA A (some (.int q.1)) (WM ad cI cZ mk mu mz mw mo md mr q.2 rest)) args sg rm_Mo_goThrough.cells rm_Mo_goThrough.slots A) 54 [(0, .ref (ad 11)), (1, .int z.1), (2, .int z.2.1), (3, .int z.2.2.1), (4, .int z.2.2.2.1), (5, .int z.2.2.2.2.1)] [] (WM ad cI cZ mk mu mz mw mo md mr z.2.2.2.2.2 rest)) :
    ∀ z : Int32 × Int32 × Int32 × Int32 × Int32 × Int32 × Int32 × Int32 × MP, jn_Mo_goThrough_250 md kx rec z = some q → vv p l e rm_Mo_goThrough sg m args below meth c D clsA A 9 0 0 (MQ below (qcI D clsA A (some (.int q.1)) (WM ad cI cZ mk mu mz mw mo md mr q.2 rest)) args sg rm_Mo_goThrough.cells rm_Mo_goThrough.slots A) 250 [(0, .ref (ad 11)), (1, .int z.1), (2, .int z.2.1), (3, .int z.2.2.1), (4, .int z.2.2.2.1), (5, .int z.2.2.2.2.1), (6, .int z.2.2.2.2.2.1), (7, .int z.2.2.2.2.2.2.1), (8, .int z.2.2.2.2.2.2.2.1)] [] (WM ad cI cZ mk mu mz mw mo md mr z.2.2.2.2.2.2.2.2 rest) := by
  have _ := hE
  intro z h
  obtain ⟨zv0, zv1, zv2, zv3, zv4, zv5, zv6, zv7, zv8⟩ := z
  unfold jn_Mo_goThrough_250 at h
  (try dsimp only at h)
  show vv p l e rm_Mo_goThrough sg m args below meth c D clsA A 9 0 0 (MQ below (qcI D clsA A (some (.int q.1)) (WM ad cI cZ mk mu mz mw mo md mr q.2 rest)) args sg rm_Mo_goThrough.cells rm_Mo_goThrough.slots A) 250 [(0, .ref (ad 11)), (1, .int zv0), (2, .int zv1), (3, .int zv2), (4, .int zv3), (5, .int zv4), (6, .int zv5), (7, .int zv6), (8, .int zv7)] [] (WM ad cI cZ mk mu mz mw mo md mr zv8 rest)
  refine r_iload_n (pc := 250) C d_Mo_goThrough_250 rfl 2 rfl ?_
  refine r_iconst (pc := 251) (v := (-1)) C d_Mo_goThrough_251 (by decide) ?_
  refine r_icmp_eq (pc := 252) (tgt := 323) C d_Mo_goThrough_252 (by decide) (fun c512 => ?_) (fun c512 => ?_)
  · replace h := ip c512 h
    refine r_loc (lv' := [(0, .ref (ad 11)), (1, .int zv0), (2, .int zv1), (3, .int zv2), (4, .int zv3), (5, .int zv4), (6, .int zv5), (7, .int zv6), (8, .int zv7)]) [0, 1, 2, 3, 4, 5, 6, 7, 8] rfl ?_
    exact vj_Mo_goThrough_323_M hE C hr hX K ih (zv0, zv1, zv2, zv3, zv4, zv5, zv6, zv7, zv8) h
  · replace h := iN c512 h
    refine r_aload_n (pc := 255) C d_Mo_goThrough_255 rfl 0 rfl ?_
    refine r_get (pc := 256) (v := .ref (ad 7)) C hin_Mo 11 rfl rfl 11 (by decide) mm_21 rfl rfl d_Mo_goThrough_256 ?_
    refine r_iload_n (pc := 259) C d_Mo_goThrough_259 rfl 2 rfl ?_
    obtain ⟨hi511, h⟩ := ign h
    refine r_iald (pc := 260) C 7 0 rfl rfl hi511 d_Mo_goThrough_260 ?_
    refine r_aload_n (pc := 261) C d_Mo_goThrough_261 rfl 0 rfl ?_
    refine r_get (pc := 262) (v := .ref (ad 7)) C hin_Mo 11 rfl rfl 11 (by decide) mm_21 rfl rfl d_Mo_goThrough_262 ?_
    refine r_iload (pc := 265) C d_Mo_goThrough_265 5 rfl ?_
    obtain ⟨hi510, h⟩ := ign h
    refine r_iald (pc := 267) C 7 0 rfl rfl hi510 d_Mo_goThrough_267 ?_
    refine r_icmp_ne (pc := 268) (tgt := 323) C d_Mo_goThrough_268 (by decide) (fun c509 => ?_) (fun c509 => ?_)
    · replace h := iN c509 h
      refine r_loc (lv' := [(0, .ref (ad 11)), (1, .int zv0), (2, .int zv1), (3, .int zv2), (4, .int zv3), (5, .int zv4), (6, .int zv5), (7, .int zv6), (8, .int zv7)]) [0, 1, 2, 3, 4, 5, 6, 7, 8] rfl ?_
      exact vj_Mo_goThrough_323_M hE C hr hX K ih (zv0, zv1, zv2, zv3, zv4, zv5, zv6, zv7, zv8) h
    · replace h := ip c509 h
      refine r_aload_n (pc := 271) C d_Mo_goThrough_271 rfl 0 rfl ?_
      refine r_get (pc := 272) (v := .ref (ad 6)) C hin_Mo 11 rfl rfl 12 (by decide) mm_22 rfl rfl d_Mo_goThrough_272 ?_
      refine r_iload_n (pc := 275) C d_Mo_goThrough_275 rfl 2 rfl ?_
      obtain ⟨hi508, h⟩ := ign h
      refine r_iald (pc := 276) C 6 0 rfl rfl hi508 d_Mo_goThrough_276 ?_
      refine r_aload_n (pc := 277) C d_Mo_goThrough_277 rfl 0 rfl ?_
      refine r_get (pc := 278) (v := .ref (ad 6)) C hin_Mo 11 rfl rfl 12 (by decide) mm_22 rfl rfl d_Mo_goThrough_278 ?_
      refine r_iload (pc := 281) C d_Mo_goThrough_281 5 rfl ?_
      obtain ⟨hi507, h⟩ := ign h
      refine r_iald (pc := 283) C 6 0 rfl rfl hi507 d_Mo_goThrough_283 ?_
      refine r_icmp_ne (pc := 284) (tgt := 323) C d_Mo_goThrough_284 (by decide) (fun c506 => ?_) (fun c506 => ?_)
      · replace h := iN c506 h
        refine r_loc (lv' := [(0, .ref (ad 11)), (1, .int zv0), (2, .int zv1), (3, .int zv2), (4, .int zv3), (5, .int zv4), (6, .int zv5), (7, .int zv6), (8, .int zv7)]) [0, 1, 2, 3, 4, 5, 6, 7, 8] rfl ?_
        exact vj_Mo_goThrough_323_M hE C hr hX K ih (zv0, zv1, zv2, zv3, zv4, zv5, zv6, zv7, zv8) h
      · replace h := ip c506 h
        refine r_aload_n (pc := 287) C d_Mo_goThrough_287 rfl 0 rfl ?_
        refine r_get (pc := 288) (v := .ref (ad 5)) C hin_Mo 11 rfl rfl 13 (by decide) mm_23 rfl rfl d_Mo_goThrough_288 ?_
        refine r_iload_n (pc := 291) C d_Mo_goThrough_291 rfl 2 rfl ?_
        obtain ⟨hi505, h⟩ := ign h
        refine r_iald (pc := 292) C 5 0 rfl rfl hi505 d_Mo_goThrough_292 ?_
        refine r_aload_n (pc := 293) C d_Mo_goThrough_293 rfl 0 rfl ?_
        refine r_get (pc := 294) (v := .ref (ad 5)) C hin_Mo 11 rfl rfl 13 (by decide) mm_23 rfl rfl d_Mo_goThrough_294 ?_
        refine r_iload (pc := 297) C d_Mo_goThrough_297 5 rfl ?_
        obtain ⟨hi504, h⟩ := ign h
        refine r_iald (pc := 299) C 5 0 rfl rfl hi504 d_Mo_goThrough_299 ?_
        refine r_icmp_ne (pc := 300) (tgt := 323) C d_Mo_goThrough_300 (by decide) (fun c503 => ?_) (fun c503 => ?_)
        · replace h := iN c503 h
          refine r_loc (lv' := [(0, .ref (ad 11)), (1, .int zv0), (2, .int zv1), (3, .int zv2), (4, .int zv3), (5, .int zv4), (6, .int zv5), (7, .int zv6), (8, .int zv7)]) [0, 1, 2, 3, 4, 5, 6, 7, 8] rfl ?_
          exact vj_Mo_goThrough_323_M hE C hr hX K ih (zv0, zv1, zv2, zv3, zv4, zv5, zv6, zv7, zv8) h
        · replace h := ip c503 h
          refine r_aload_n (pc := 303) C d_Mo_goThrough_303 rfl 0 rfl ?_
          refine r_get (pc := 304) (v := .ref (ad 4)) C hin_Mo 11 rfl rfl 14 (by decide) mm_24 rfl rfl d_Mo_goThrough_304 ?_
          refine r_iload_n (pc := 307) C d_Mo_goThrough_307 rfl 2 rfl ?_
          obtain ⟨hi502, h⟩ := ign h
          refine r_zald (pc := 308) C 4 1 rfl rfl hi502 d_Mo_goThrough_308 ?_
          refine r_aload_n (pc := 309) C d_Mo_goThrough_309 rfl 0 rfl ?_
          refine r_get (pc := 310) (v := .ref (ad 4)) C hin_Mo 11 rfl rfl 14 (by decide) mm_24 rfl rfl d_Mo_goThrough_310 ?_
          refine r_iload (pc := 313) C d_Mo_goThrough_313 5 rfl ?_
          obtain ⟨hi501, h⟩ := ign h
          refine r_zald (pc := 315) C 4 1 rfl rfl hi501 d_Mo_goThrough_315 ?_
          refine r_icmp_eq (pc := 316) (tgt := 323) C d_Mo_goThrough_316 (by decide) (fun c500 => ?_) (fun c500 => ?_)
          · replace h := ip c500 h
            refine r_loc (lv' := [(0, .ref (ad 11)), (1, .int zv0), (2, .int zv1), (3, .int zv2), (4, .int zv3), (5, .int zv4), (6, .int zv5), (7, .int zv6), (8, .int zv7)]) [0, 1, 2, 3, 4, 5, 6, 7, 8] rfl ?_
            exact vj_Mo_goThrough_323_M hE C hr hX K ih (zv0, zv1, zv2, zv3, zv4, zv5, zv6, zv7, zv8) h
          · replace h := iN c500 h
            refine r_iload_n (pc := 319) C d_Mo_goThrough_319 rfl 1 rfl ?_
            refine r_iconst (pc := 320) (v := 4) C d_Mo_goThrough_320 (by decide) ?_
            refine r_ior (pc := 321) C d_Mo_goThrough_321 ?_
            refine r_istore_n (pc := 322) (lv' := [(1, .int (zv0 ||| (4 : Int32))), (0, .ref (ad 11)), (2, .int zv1), (3, .int zv2), (4, .int zv3), (5, .int zv4), (6, .int zv5), (7, .int zv6), (8, .int zv7)]) C d_Mo_goThrough_322 rfl (by decide) rfl ?_
            refine r_loc (lv' := [(0, .ref (ad 11)), (1, .int (zv0 ||| (4 : Int32))), (2, .int zv1), (3, .int zv2), (4, .int zv3), (5, .int zv4), (6, .int zv5), (7, .int zv6), (8, .int zv7)]) [1, 0, 2, 3, 4, 5, 6, 7, 8] rfl ?_
            exact vj_Mo_goThrough_323_M hE C hr hX K ih (zv0 ||| (4 : Int32), zv1, zv2, zv3, zv4, zv5, zv6, zv7, zv8) h
set_option maxHeartbeats 4000000 in
set_option maxRecDepth 100000 in
theorem vj_Mo_goThrough_236_M {l : Launch} {E : State → Heap → Prop} {D : va_G} {A : Nat → Prop} {cI cZ cJ : ClassId} (hE : stb A E) {ad : Nat → Nat} {mk : Int32} {mu : Int64} {mz : Int32} {mw : Int32} {mo : (Nat → Int32)} {md : MD} {mr : MR} {rest : va_W} {p : Program} {e : Env} {sg : State} {m : MethodId} {args : Array Value} {below : List Frame} {meth : Method} {c : Code} (C : cx p sg m args meth c D clsA (TY cI cZ cJ) A GG R_Mo b_Mo_goThrough 9) (hr : meth.sig.returnType = (some .int)) (hX : E sg sg.heap) {q : Int32 × MP} {kx rec : Int32 × Int32 × Int32 × Int32 × Int32 × MP → Option (Int32 × MP)} (K : ∀ z : Int32 × Int32 × Int32 × Int32 × Int32 × MP, kx z = some q → vv p l e rm_Mo_goThrough sg m args below meth c D clsA A 9 0 0 (MQ below (qcI D clsA A (some (.int q.1)) (WM ad cI cZ mk mu mz mw mo md mr q.2 rest)) args sg rm_Mo_goThrough.cells rm_Mo_goThrough.slots A) 347 [(0, .ref (ad 11)), (1, .int z.1), (2, .int z.2.1), (3, .int z.2.2.1), (4, .int z.2.2.2.1), (5, .int z.2.2.2.2.1)] [] (WM ad cI cZ mk mu mz mw mo md mr z.2.2.2.2.2 rest)) (ih : ∀ z : Int32 × Int32 × Int32 × Int32 × Int32 × MP, rec z = some q → vv p l e rm_Mo_goThrough sg m args below meth c D clsA A 9 0 0 (MQ below (qcI D clsA A (some (.int q.1)) (WM ad cI cZ mk mu mz mw mo md mr q.2 rest)) args sg rm_Mo_goThrough.cells rm_Mo_goThrough.slots A) 54 [(0, .ref (ad 11)), (1, .int z.1), (2, .int z.2.1), (3, .int z.2.2.1), (4, .int z.2.2.2.1), (5, .int z.2.2.2.2.1)] [] (WM ad cI cZ mk mu mz mw mo md mr z.2.2.2.2.2 rest)) :
    ∀ z : Int32 × Int32 × Int32 × Int32 × Int32 × Int32 × Int32 × Int32 × MP, jn_Mo_goThrough_236 md kx rec z = some q → vv p l e rm_Mo_goThrough sg m args below meth c D clsA A 9 0 0 (MQ below (qcI D clsA A (some (.int q.1)) (WM ad cI cZ mk mu mz mw mo md mr q.2 rest)) args sg rm_Mo_goThrough.cells rm_Mo_goThrough.slots A) 236 [(0, .ref (ad 11)), (1, .int z.1), (2, .int z.2.1), (3, .int z.2.2.1), (4, .int z.2.2.2.1), (5, .int z.2.2.2.2.1), (6, .int z.2.2.2.2.2.1), (7, .int z.2.2.2.2.2.2.1), (8, .int z.2.2.2.2.2.2.2.1)] [] (WM ad cI cZ mk mu mz mw mo md mr z.2.2.2.2.2.2.2.2 rest) := by
  have _ := hE
  intro z h
  obtain ⟨zv0, zv1, zv2, zv3, zv4, zv5, zv6, zv7, zv8⟩ := z
  unfold jn_Mo_goThrough_236 at h
  (try dsimp only at h)
  show vv p l e rm_Mo_goThrough sg m args below meth c D clsA A 9 0 0 (MQ below (qcI D clsA A (some (.int q.1)) (WM ad cI cZ mk mu mz mw mo md mr q.2 rest)) args sg rm_Mo_goThrough.cells rm_Mo_goThrough.slots A) 236 [(0, .ref (ad 11)), (1, .int zv0), (2, .int zv1), (3, .int zv2), (4, .int zv3), (5, .int zv4), (6, .int zv5), (7, .int zv6), (8, .int zv7)] [] (WM ad cI cZ mk mu mz mw mo md mr zv8 rest)
  refine r_aload_n (pc := 236) C d_Mo_goThrough_236 rfl 0 rfl ?_
  refine r_get (pc := 237) (v := .ref (ad 1)) C hin_Mo 11 rfl rfl 18 (by decide) mm_47 rfl rfl d_Mo_goThrough_237 ?_
  refine r_iload (pc := 240) C d_Mo_goThrough_240 7 rfl ?_
  obtain ⟨hi516, h⟩ := ign h
  refine r_iald (pc := 242) C 1 0 rfl rfl hi516 d_Mo_goThrough_242 ?_
  refine r_if_ge (pc := 243) (tgt := 250) C d_Mo_goThrough_243 (by decide) (fun c515 => ?_) (fun c515 => ?_)
  · replace h := ip c515 h
    refine r_loc (lv' := [(0, .ref (ad 11)), (1, .int zv0), (2, .int zv1), (3, .int zv2), (4, .int zv3), (5, .int zv4), (6, .int zv5), (7, .int zv6), (8, .int zv7)]) [0, 1, 2, 3, 4, 5, 6, 7, 8] rfl ?_
    exact vj_Mo_goThrough_250_M hE C hr hX K ih (zv0, zv1, zv2, zv3, zv4, zv5, zv6, zv7, zv8) h
  · replace h := iN c515 h
    refine r_iload_n (pc := 246) C d_Mo_goThrough_246 rfl 1 rfl ?_
    refine r_iconst (pc := 247) (v := 2) C d_Mo_goThrough_247 (by decide) ?_
    refine r_ior (pc := 248) C d_Mo_goThrough_248 ?_
    refine r_istore_n (pc := 249) (lv' := [(1, .int (zv0 ||| (2 : Int32))), (0, .ref (ad 11)), (2, .int zv1), (3, .int zv2), (4, .int zv3), (5, .int zv4), (6, .int zv5), (7, .int zv6), (8, .int zv7)]) C d_Mo_goThrough_249 rfl (by decide) rfl ?_
    refine r_loc (lv' := [(0, .ref (ad 11)), (1, .int (zv0 ||| (2 : Int32))), (2, .int zv1), (3, .int zv2), (4, .int zv3), (5, .int zv4), (6, .int zv5), (7, .int zv6), (8, .int zv7)]) [1, 0, 2, 3, 4, 5, 6, 7, 8] rfl ?_
    exact vj_Mo_goThrough_250_M hE C hr hX K ih (zv0 ||| (2 : Int32), zv1, zv2, zv3, zv4, zv5, zv6, zv7, zv8) h
set_option maxHeartbeats 4000000 in
set_option maxRecDepth 100000 in
theorem vj_Mo_goThrough_214_M {l : Launch} {E : State → Heap → Prop} {D : va_G} {A : Nat → Prop} {cI cZ cJ : ClassId} (hE : stb A E) {ad : Nat → Nat} {mk : Int32} {mu : Int64} {mz : Int32} {mw : Int32} {mo : (Nat → Int32)} {md : MD} {mr : MR} {rest : va_W} {p : Program} {e : Env} {sg : State} {m : MethodId} {args : Array Value} {below : List Frame} {meth : Method} {c : Code} (C : cx p sg m args meth c D clsA (TY cI cZ cJ) A GG R_Mo b_Mo_goThrough 9) (hr : meth.sig.returnType = (some .int)) (hX : E sg sg.heap) {q : Int32 × MP} {kx rec : Int32 × Int32 × Int32 × Int32 × Int32 × MP → Option (Int32 × MP)} (K : ∀ z : Int32 × Int32 × Int32 × Int32 × Int32 × MP, kx z = some q → vv p l e rm_Mo_goThrough sg m args below meth c D clsA A 9 0 0 (MQ below (qcI D clsA A (some (.int q.1)) (WM ad cI cZ mk mu mz mw mo md mr q.2 rest)) args sg rm_Mo_goThrough.cells rm_Mo_goThrough.slots A) 347 [(0, .ref (ad 11)), (1, .int z.1), (2, .int z.2.1), (3, .int z.2.2.1), (4, .int z.2.2.2.1), (5, .int z.2.2.2.2.1)] [] (WM ad cI cZ mk mu mz mw mo md mr z.2.2.2.2.2 rest)) (ih : ∀ z : Int32 × Int32 × Int32 × Int32 × Int32 × MP, rec z = some q → vv p l e rm_Mo_goThrough sg m args below meth c D clsA A 9 0 0 (MQ below (qcI D clsA A (some (.int q.1)) (WM ad cI cZ mk mu mz mw mo md mr q.2 rest)) args sg rm_Mo_goThrough.cells rm_Mo_goThrough.slots A) 54 [(0, .ref (ad 11)), (1, .int z.1), (2, .int z.2.1), (3, .int z.2.2.1), (4, .int z.2.2.2.1), (5, .int z.2.2.2.2.1)] [] (WM ad cI cZ mk mu mz mw mo md mr z.2.2.2.2.2 rest)) :
    ∀ z : Int32 × Int32 × Int32 × Int32 × Int32 × Int32 × Int32 × Int32 × Int32 × Int32 × MP, jn_Mo_goThrough_214 md kx rec z = some q → vv p l e rm_Mo_goThrough sg m args below meth c D clsA A 9 0 0 (MQ below (qcI D clsA A (some (.int q.1)) (WM ad cI cZ mk mu mz mw mo md mr q.2 rest)) args sg rm_Mo_goThrough.cells rm_Mo_goThrough.slots A) 214 [(0, .ref (ad 11)), (1, .int z.1), (2, .int z.2.1), (3, .int z.2.2.1), (4, .int z.2.2.2.1), (5, .int z.2.2.2.2.1), (6, .int z.2.2.2.2.2.1), (7, .int z.2.2.2.2.2.2.1), (8, .int z.2.2.2.2.2.2.2.1)] [.int z.2.2.2.2.2.2.2.2.2.1, .int z.2.2.2.2.2.2.2.2.1, .ref (ad 0)] (WM ad cI cZ mk mu mz mw mo md mr z.2.2.2.2.2.2.2.2.2.2 rest) := by
  have _ := hE
  intro z h
  obtain ⟨zv0, zv1, zv2, zv3, zv4, zv5, zv6, zv7, zv8, zv9, zv10⟩ := z
  unfold jn_Mo_goThrough_214 at h
  (try dsimp only at h)
  show vv p l e rm_Mo_goThrough sg m args below meth c D clsA A 9 0 0 (MQ below (qcI D clsA A (some (.int q.1)) (WM ad cI cZ mk mu mz mw mo md mr q.2 rest)) args sg rm_Mo_goThrough.cells rm_Mo_goThrough.slots A) 214 [(0, .ref (ad 11)), (1, .int zv0), (2, .int zv1), (3, .int zv2), (4, .int zv3), (5, .int zv4), (6, .int zv5), (7, .int zv6), (8, .int zv7)] [.int zv9, .int zv8, .ref (ad 0)] (WM ad cI cZ mk mu mz mw mo md mr zv10 rest)
  obtain ⟨hi524, h⟩ := ign h
  refine r_iast (pc := 214) (ws' := WM ad cI cZ mk mu mz mw mo md mr (zv10.1, upd zv10.2 zv8.toNatClampNeg zv9) rest) C 0 0 rfl rfl hi524 rfl d_Mo_goThrough_214 ?_
  refine r_iload (pc := 215) C d_Mo_goThrough_215 8 rfl ?_
  refine r_aload_n (pc := 217) C d_Mo_goThrough_217 rfl 0 rfl ?_
  refine r_get (pc := 218) (v := .ref (ad 9)) C hin_Mo 11 rfl rfl 7 (by decide) mm_17 rfl rfl d_Mo_goThrough_218 ?_
  refine r_aload_n (pc := 221) C d_Mo_goThrough_221 rfl 0 rfl ?_
  refine r_get (pc := 222) (v := .ref (ad 7)) C hin_Mo 11 rfl rfl 11 (by decide) mm_21 rfl rfl d_Mo_goThrough_222 ?_
  refine r_iload (pc := 225) C d_Mo_goThrough_225 5 rfl ?_
  obtain ⟨hi523, h⟩ := ign h
  refine r_iald (pc := 227) C 7 0 rfl rfl hi523 d_Mo_goThrough_227 ?_
  obtain ⟨hi522, h⟩ := ign h
  refine r_iald (pc := 228) C 9 0 rfl rfl hi522 d_Mo_goThrough_228 ?_
  refine r_icmp_le (pc := 229) (tgt := 236) C d_Mo_goThrough_229 (by decide) (fun c521 => ?_) (fun c521 => ?_)
  · replace h := ip c521 h
    refine r_loc (lv' := [(0, .ref (ad 11)), (1, .int zv0), (2, .int zv1), (3, .int zv2), (4, .int zv3), (5, .int zv4), (6, .int zv5), (7, .int zv6), (8, .int zv7)]) [0, 1, 2, 3, 4, 5, 6, 7, 8] rfl ?_
    exact vj_Mo_goThrough_236_M hE C hr hX K ih (zv0, zv1, zv2, zv3, zv4, zv5, zv6, zv7, (zv10.1, upd zv10.2 zv8.toNatClampNeg zv9)) h
  · replace h := iN c521 h
    refine r_iload_n (pc := 232) C d_Mo_goThrough_232 rfl 1 rfl ?_
    refine r_iconst (pc := 233) (v := 1) C d_Mo_goThrough_233 (by decide) ?_
    refine r_ior (pc := 234) C d_Mo_goThrough_234 ?_
    refine r_istore_n (pc := 235) (lv' := [(1, .int (zv0 ||| (1 : Int32))), (0, .ref (ad 11)), (2, .int zv1), (3, .int zv2), (4, .int zv3), (5, .int zv4), (6, .int zv5), (7, .int zv6), (8, .int zv7)]) C d_Mo_goThrough_235 rfl (by decide) rfl ?_
    refine r_loc (lv' := [(0, .ref (ad 11)), (1, .int (zv0 ||| (1 : Int32))), (2, .int zv1), (3, .int zv2), (4, .int zv3), (5, .int zv4), (6, .int zv5), (7, .int zv6), (8, .int zv7)]) [1, 0, 2, 3, 4, 5, 6, 7, 8] rfl ?_
    exact vj_Mo_goThrough_236_M hE C hr hX K ih (zv0 ||| (1 : Int32), zv1, zv2, zv3, zv4, zv5, zv6, zv7, (zv10.1, upd zv10.2 zv8.toNatClampNeg zv9)) h
set_option maxHeartbeats 4000000 in
set_option maxRecDepth 100000 in
theorem vj_Mo_goThrough_103_M {l : Launch} {E : State → Heap → Prop} {D : va_G} {A : Nat → Prop} {cI cZ cJ : ClassId} (hE : stb A E) {ad : Nat → Nat} {mk : Int32} {mu : Int64} {mz : Int32} {mw : Int32} {mo : (Nat → Int32)} {md : MD} {mr : MR} {rest : va_W} {p : Program} {e : Env} {sg : State} {m : MethodId} {args : Array Value} {below : List Frame} {meth : Method} {c : Code} (C : cx p sg m args meth c D clsA (TY cI cZ cJ) A GG R_Mo b_Mo_goThrough 9) (hr : meth.sig.returnType = (some .int)) (hX : E sg sg.heap) {q : Int32 × MP} {kx rec : Int32 × Int32 × Int32 × Int32 × Int32 × MP → Option (Int32 × MP)} (K : ∀ z : Int32 × Int32 × Int32 × Int32 × Int32 × MP, kx z = some q → vv p l e rm_Mo_goThrough sg m args below meth c D clsA A 9 0 0 (MQ below (qcI D clsA A (some (.int q.1)) (WM ad cI cZ mk mu mz mw mo md mr q.2 rest)) args sg rm_Mo_goThrough.cells rm_Mo_goThrough.slots A) 347 [(0, .ref (ad 11)), (1, .int z.1), (2, .int z.2.1), (3, .int z.2.2.1), (4, .int z.2.2.2.1), (5, .int z.2.2.2.2.1)] [] (WM ad cI cZ mk mu mz mw mo md mr z.2.2.2.2.2 rest)) (ih : ∀ z : Int32 × Int32 × Int32 × Int32 × Int32 × MP, rec z = some q → vv p l e rm_Mo_goThrough sg m args below meth c D clsA A 9 0 0 (MQ below (qcI D clsA A (some (.int q.1)) (WM ad cI cZ mk mu mz mw mo md mr q.2 rest)) args sg rm_Mo_goThrough.cells rm_Mo_goThrough.slots A) 54 [(0, .ref (ad 11)), (1, .int z.1), (2, .int z.2.1), (3, .int z.2.2.1), (4, .int z.2.2.2.1), (5, .int z.2.2.2.2.1)] [] (WM ad cI cZ mk mu mz mw mo md mr z.2.2.2.2.2 rest)) :
    ∀ z : Int32 × Int32 × Int32 × Int32 × Int32 × Int32 × MP, jn_Mo_goThrough_103 md kx rec z = some q → vv p l e rm_Mo_goThrough sg m args below meth c D clsA A 9 0 0 (MQ below (qcI D clsA A (some (.int q.1)) (WM ad cI cZ mk mu mz mw mo md mr q.2 rest)) args sg rm_Mo_goThrough.cells rm_Mo_goThrough.slots A) 103 [(0, .ref (ad 11)), (1, .int z.1), (2, .int z.2.1), (3, .int z.2.2.1), (4, .int z.2.2.2.1), (5, .int z.2.2.2.2.1)] [.int z.2.2.2.2.2.1] (WM ad cI cZ mk mu mz mw mo md mr z.2.2.2.2.2.2 rest) := by
  have _ := hE
  intro z h
  obtain ⟨zv0, zv1, zv2, zv3, zv4, zv5, zv6⟩ := z
  unfold jn_Mo_goThrough_103 at h
  (try dsimp only at h)
  show vv p l e rm_Mo_goThrough sg m args below meth c D clsA A 9 0 0 (MQ below (qcI D clsA A (some (.int q.1)) (WM ad cI cZ mk mu mz mw mo md mr q.2 rest)) args sg rm_Mo_goThrough.cells rm_Mo_goThrough.slots A) 103 [(0, .ref (ad 11)), (1, .int zv0), (2, .int zv1), (3, .int zv2), (4, .int zv3), (5, .int zv4)] [.int zv5] (WM ad cI cZ mk mu mz mw mo md mr zv6 rest)
  refine r_istore (pc := 103) (lv' := [(6, .int zv5), (0, .ref (ad 11)), (1, .int zv0), (2, .int zv1), (3, .int zv2), (4, .int zv3), (5, .int zv4)]) C d_Mo_goThrough_103 (by decide) rfl ?_
  refine r_bipush (pc := 105) (v := 8) C d_Mo_goThrough_105 (by decide) ?_
  refine r_aload_n (pc := 107) C d_Mo_goThrough_107 rfl 1 rfl ?_
  refine r_get (pc := 108) (v := .ref (ad 7)) C hin_Mo 11 rfl rfl 11 (by decide) mm_21 rfl rfl d_Mo_goThrough_108 ?_
  refine r_iload (pc := 111) C d_Mo_goThrough_111 6 rfl ?_
  obtain ⟨hi549, h⟩ := ign h
  refine r_iald (pc := 113) C 7 0 rfl rfl hi549 d_Mo_goThrough_113 ?_
  refine r_imul (pc := 114) C d_Mo_goThrough_114 ?_
  refine r_aload_n (pc := 115) C d_Mo_goThrough_115 rfl 1 rfl ?_
  refine r_get (pc := 116) (v := .ref (ad 6)) C hin_Mo 11 rfl rfl 12 (by decide) mm_22 rfl rfl d_Mo_goThrough_116 ?_
  refine r_iload (pc := 119) C d_Mo_goThrough_119 6 rfl ?_
  obtain ⟨hi548, h⟩ := ign h
  refine r_iald (pc := 121) C 6 0 rfl rfl hi548 d_Mo_goThrough_121 ?_
  refine r_iadd (pc := 122) C d_Mo_goThrough_122 ?_
  refine r_istore (pc := 123) (lv' := [(7, .int (((8 : Int32) * (md.2.2.2.2.2.2.1 zv4.toNatClampNeg)) + (md.2.2.2.2.2.2.2.1 zv4.toNatClampNeg))), (6, .int zv5), (0, .ref (ad 11)), (1, .int zv0), (2, .int zv1), (3, .int zv2), (4, .int zv3), (5, .int zv4)]) C d_Mo_goThrough_123 (by decide) rfl ?_
  refine r_aload_n (pc := 125) C d_Mo_goThrough_125 rfl 2 rfl ?_
  refine r_get (pc := 126) (v := .ref (ad 1)) C hin_Mo 11 rfl rfl 18 (by decide) mm_47 rfl rfl d_Mo_goThrough_126 ?_
  refine r_iload (pc := 129) C d_Mo_goThrough_129 0 rfl ?_
  refine r_dup2 (pc := 131) C d_Mo_goThrough_131 rfl rfl ?_
  obtain ⟨hi547, h⟩ := ign h
  refine r_iald (pc := 132) C 1 0 rfl rfl hi547 d_Mo_goThrough_132 ?_
  refine r_iload (pc := 133) C d_Mo_goThrough_133 1 rfl ?_
  refine r_iadd (pc := 135) C d_Mo_goThrough_135 ?_
  obtain ⟨hi546, h⟩ := ign h
  refine r_iast (pc := 136) (ws' := WM ad cI cZ mk mu mz mw mo md mr (upd zv6.1 (((8 : Int32) * (md.2.2.2.2.2.2.1 zv4.toNatClampNeg)) + (md.2.2.2.2.2.2.2.1 zv4.toNatClampNeg)).toNatClampNeg ((zv6.1 (((8 : Int32) * (md.2.2.2.2.2.2.1 zv4.toNatClampNeg)) + (md.2.2.2.2.2.2.2.1 zv4.toNatClampNeg)).toNatClampNeg) + zv5), zv6.2) rest) C 1 0 rfl rfl hi546 rfl d_Mo_goThrough_136 ?_
  refine r_iload_n (pc := 137) C d_Mo_goThrough_137 rfl 5 rfl ?_
  refine r_iload (pc := 138) C d_Mo_goThrough_138 1 rfl ?_
  refine r_iadd (pc := 140) C d_Mo_goThrough_140 ?_
  refine r_istore_n (pc := 141) (lv' := [(3, .int (zv2 + zv5)), (7, .int (((8 : Int32) * (md.2.2.2.2.2.2.1 zv4.toNatClampNeg)) + (md.2.2.2.2.2.2.2.1 zv4.toNatClampNeg))), (6, .int zv5), (0, .ref (ad 11)), (1, .int zv0), (2, .int zv1), (4, .int zv3), (5, .int zv4)]) C d_Mo_goThrough_141 rfl (by decide) rfl ?_
  refine r_iload (pc := 142) C d_Mo_goThrough_142 6 rfl ?_
  refine r_iconst (pc := 144) (v := 1) C d_Mo_goThrough_144 (by decide) ?_
  refine r_aload_n (pc := 145) C d_Mo_goThrough_145 rfl 3 rfl ?_
  refine r_get (pc := 146) (v := .ref (ad 7)) C hin_Mo 11 rfl rfl 11 (by decide) mm_21 rfl rfl d_Mo_goThrough_146 ?_
  refine r_iload (pc := 149) C d_Mo_goThrough_149 7 rfl ?_
  obtain ⟨hi545, h⟩ := ign h
  refine r_iald (pc := 151) C 7 0 rfl rfl hi545 d_Mo_goThrough_151 ?_
  refine r_ishl (pc := 152) C d_Mo_goThrough_152 ?_
  refine r_ior (pc := 153) C d_Mo_goThrough_153 ?_
  refine r_istore (pc := 154) (lv' := [(4, .int (zv3 ||| ((1 : Int32) <<< ((md.2.2.2.2.2.2.1 zv4.toNatClampNeg) &&& 31)))), (3, .int (zv2 + zv5)), (7, .int (((8 : Int32) * (md.2.2.2.2.2.2.1 zv4.toNatClampNeg)) + (md.2.2.2.2.2.2.2.1 zv4.toNatClampNeg))), (6, .int zv5), (0, .ref (ad 11)), (1, .int zv0), (2, .int zv1), (5, .int zv4)]) C d_Mo_goThrough_154 (by decide) rfl ?_
  refine r_aload_n (pc := 156) C d_Mo_goThrough_156 rfl 4 rfl ?_
  refine r_aload_n (pc := 157) C d_Mo_goThrough_157 rfl 4 rfl ?_
  refine r_get (pc := 158) (v := .ref (ad 7)) C hin_Mo 11 rfl rfl 11 (by decide) mm_21 rfl rfl d_Mo_goThrough_158 ?_
  refine r_iload (pc := 161) C d_Mo_goThrough_161 7 rfl ?_
  obtain ⟨hi544, h⟩ := ign h
  refine r_iald (pc := 163) C 7 0 rfl rfl hi544 d_Mo_goThrough_163 ?_
  obtain ⟨q537, hq537, h⟩ := ob h
  refine r_callV (pc := 164) (As := [.int (md.2.2.2.2.2.2.1 zv4.toNatClampNeg)]) (rest := []) (st1 := [.int q537]) hE gg_good C hX (c_Mo_gramsAt_M hE hq537) mm_49 mm_50 mm_51 mm_10 mm_52 hd_Mo_gramsAt 11 rfl rfl ⟨⟨(Nat.le_of_ble_eq_true rfl), (Nat.le_of_ble_eq_true rfl)⟩, (Nat.le_of_ble_eq_true rfl), (Nat.le_of_ble_eq_true rfl)⟩ (Nat.le_of_ble_eq_true rfl) rfl rfl d_Mo_goThrough_164 ?_
  refine r_istore (pc := 167) (lv' := [(8, .int q537), (4, .int (zv3 ||| ((1 : Int32) <<< ((md.2.2.2.2.2.2.1 zv4.toNatClampNeg) &&& 31)))), (3, .int (zv2 + zv5)), (7, .int (((8 : Int32) * (md.2.2.2.2.2.2.1 zv4.toNatClampNeg)) + (md.2.2.2.2.2.2.2.1 zv4.toNatClampNeg))), (6, .int zv5), (0, .ref (ad 11)), (1, .int zv0), (2, .int zv1), (5, .int zv4)]) C d_Mo_goThrough_167 (by decide) rfl ?_
  refine r_aload_n (pc := 169) C d_Mo_goThrough_169 rfl 5 rfl ?_
  refine r_get (pc := 170) (v := .ref (ad 0)) C hin_Mo 11 rfl rfl 19 (by decide) mm_48 rfl rfl d_Mo_goThrough_170 ?_
  refine r_aload_n (pc := 173) C d_Mo_goThrough_173 rfl 5 rfl ?_
  refine r_get (pc := 174) (v := .ref (ad 7)) C hin_Mo 11 rfl rfl 11 (by decide) mm_21 rfl rfl d_Mo_goThrough_174 ?_
  refine r_iload (pc := 177) C d_Mo_goThrough_177 8 rfl ?_
  obtain ⟨hi543, h⟩ := ign h
  refine r_iald (pc := 179) C 7 0 rfl rfl hi543 d_Mo_goThrough_179 ?_
  refine r_iload (pc := 180) C d_Mo_goThrough_180 0 rfl ?_
  refine r_aload_n (pc := 182) C d_Mo_goThrough_182 rfl 5 rfl ?_
  refine r_get (pc := 183) (v := .ref (ad 0)) C hin_Mo 11 rfl rfl 19 (by decide) mm_48 rfl rfl d_Mo_goThrough_183 ?_
  refine r_aload_n (pc := 186) C d_Mo_goThrough_186 rfl 5 rfl ?_
  refine r_get (pc := 187) (v := .ref (ad 7)) C hin_Mo 11 rfl rfl 11 (by decide) mm_21 rfl rfl d_Mo_goThrough_187 ?_
  refine r_iload (pc := 190) C d_Mo_goThrough_190 8 rfl ?_
  obtain ⟨hi542, h⟩ := ign h
  refine r_iald (pc := 192) C 7 0 rfl rfl hi542 d_Mo_goThrough_192 ?_
  obtain ⟨hi541, h⟩ := ign h
  refine r_iald (pc := 193) C 0 0 rfl rfl hi541 d_Mo_goThrough_193 ?_
  refine r_icmp_le (pc := 194) (tgt := 202) C d_Mo_goThrough_194 (by decide) (fun c540 => ?_) (fun c540 => ?_)
  · replace h := ip c540 h
    refine r_aload_n (pc := 202) C d_Mo_goThrough_202 rfl 5 rfl ?_
    refine r_get (pc := 203) (v := .ref (ad 0)) C hin_Mo 11 rfl rfl 19 (by decide) mm_48 rfl rfl d_Mo_goThrough_203 ?_
    refine r_aload_n (pc := 206) C d_Mo_goThrough_206 rfl 5 rfl ?_
    refine r_get (pc := 207) (v := .ref (ad 7)) C hin_Mo 11 rfl rfl 11 (by decide) mm_21 rfl rfl d_Mo_goThrough_207 ?_
    refine r_iload (pc := 210) C d_Mo_goThrough_210 8 rfl ?_
    obtain ⟨hi539, h⟩ := ign h
    refine r_iald (pc := 212) C 7 0 rfl rfl hi539 d_Mo_goThrough_212 ?_
    obtain ⟨hi538, h⟩ := ign h
    refine r_iald (pc := 213) C 0 0 rfl rfl hi538 d_Mo_goThrough_213 ?_
    refine r_loc (lv' := [(0, .ref (ad 11)), (1, .int zv0), (2, .int zv1), (3, .int (zv2 + zv5)), (4, .int (zv3 ||| ((1 : Int32) <<< ((md.2.2.2.2.2.2.1 zv4.toNatClampNeg) &&& 31)))), (5, .int zv4), (6, .int zv5), (7, .int (((8 : Int32) * (md.2.2.2.2.2.2.1 zv4.toNatClampNeg)) + (md.2.2.2.2.2.2.2.1 zv4.toNatClampNeg))), (8, .int q537)]) [5, 6, 7, 2, 1, 8, 4, 3, 0] rfl ?_
    exact vj_Mo_goThrough_214_M hE C hr hX K ih (zv0, zv1, zv2 + zv5, zv3 ||| ((1 : Int32) <<< ((md.2.2.2.2.2.2.1 zv4.toNatClampNeg) &&& 31)), zv4, zv5, ((8 : Int32) * (md.2.2.2.2.2.2.1 zv4.toNatClampNeg)) + (md.2.2.2.2.2.2.2.1 zv4.toNatClampNeg), q537, md.2.2.2.2.2.2.1 zv4.toNatClampNeg, zv6.2 (md.2.2.2.2.2.2.1 zv4.toNatClampNeg).toNatClampNeg, (upd zv6.1 (((8 : Int32) * (md.2.2.2.2.2.2.1 zv4.toNatClampNeg)) + (md.2.2.2.2.2.2.2.1 zv4.toNatClampNeg)).toNatClampNeg ((zv6.1 (((8 : Int32) * (md.2.2.2.2.2.2.1 zv4.toNatClampNeg)) + (md.2.2.2.2.2.2.2.1 zv4.toNatClampNeg)).toNatClampNeg) + zv5), zv6.2)) h
  · replace h := iN c540 h
    refine r_iload (pc := 197) C d_Mo_goThrough_197 0 rfl ?_
    refine r_goto (pc := 199) (tgt := 214) C d_Mo_goThrough_199 (by decide) ?_
    refine r_loc (lv' := [(0, .ref (ad 11)), (1, .int zv0), (2, .int zv1), (3, .int (zv2 + zv5)), (4, .int (zv3 ||| ((1 : Int32) <<< ((md.2.2.2.2.2.2.1 zv4.toNatClampNeg) &&& 31)))), (5, .int zv4), (6, .int zv5), (7, .int (((8 : Int32) * (md.2.2.2.2.2.2.1 zv4.toNatClampNeg)) + (md.2.2.2.2.2.2.2.1 zv4.toNatClampNeg))), (8, .int q537)]) [5, 6, 7, 2, 1, 8, 4, 3, 0] rfl ?_
    exact vj_Mo_goThrough_214_M hE C hr hX K ih (zv0, zv1, zv2 + zv5, zv3 ||| ((1 : Int32) <<< ((md.2.2.2.2.2.2.1 zv4.toNatClampNeg) &&& 31)), zv4, zv5, ((8 : Int32) * (md.2.2.2.2.2.2.1 zv4.toNatClampNeg)) + (md.2.2.2.2.2.2.2.1 zv4.toNatClampNeg), q537, md.2.2.2.2.2.2.1 zv4.toNatClampNeg, q537, (upd zv6.1 (((8 : Int32) * (md.2.2.2.2.2.2.1 zv4.toNatClampNeg)) + (md.2.2.2.2.2.2.2.1 zv4.toNatClampNeg)).toNatClampNeg ((zv6.1 (((8 : Int32) * (md.2.2.2.2.2.2.1 zv4.toNatClampNeg)) + (md.2.2.2.2.2.2.2.1 zv4.toNatClampNeg)).toNatClampNeg) + zv5), zv6.2)) h
set_option maxHeartbeats 4000000 in
set_option maxRecDepth 100000 in
theorem vl_Mo_goThrough_54_M {l : Launch} {E : State → Heap → Prop} {D : va_G} {A : Nat → Prop} {cI cZ cJ : ClassId} (hE : stb A E) {ad : Nat → Nat} {mk : Int32} {mu : Int64} {mz : Int32} {mw : Int32} {mo : (Nat → Int32)} {md : MD} {mr : MR} {rest : va_W} {p : Program} {e : Env} {sg : State} {m : MethodId} {args : Array Value} {below : List Frame} {meth : Method} {c : Code} (C : cx p sg m args meth c D clsA (TY cI cZ cJ) A GG R_Mo b_Mo_goThrough 9) (hr : meth.sig.returnType = (some .int)) (hX : E sg sg.heap) {q : Int32 × MP} {kx : Int32 × Int32 × Int32 × Int32 × Int32 × MP → Option (Int32 × MP)} (K : ∀ z : Int32 × Int32 × Int32 × Int32 × Int32 × MP, kx z = some q → vv p l e rm_Mo_goThrough sg m args below meth c D clsA A 9 0 0 (MQ below (qcI D clsA A (some (.int q.1)) (WM ad cI cZ mk mu mz mw mo md mr q.2 rest)) args sg rm_Mo_goThrough.cells rm_Mo_goThrough.slots A) 347 [(0, .ref (ad 11)), (1, .int z.1), (2, .int z.2.1), (3, .int z.2.2.1), (4, .int z.2.2.2.1), (5, .int z.2.2.2.2.1)] [] (WM ad cI cZ mk mu mz mw mo md mr z.2.2.2.2.2 rest)) :
    ∀ (n : Nat) (z : Int32 × Int32 × Int32 × Int32 × Int32 × MP), itn (bd_Mo_goThrough_54 mo md kx) n z = some q → vv p l e rm_Mo_goThrough sg m args below meth c D clsA A 9 0 0 (MQ below (qcI D clsA A (some (.int q.1)) (WM ad cI cZ mk mu mz mw mo md mr q.2 rest)) args sg rm_Mo_goThrough.cells rm_Mo_goThrough.slots A) 54 [(0, .ref (ad 11)), (1, .int z.1), (2, .int z.2.1), (3, .int z.2.2.1), (4, .int z.2.2.2.1), (5, .int z.2.2.2.2.1)] [] (WM ad cI cZ mk mu mz mw mo md mr z.2.2.2.2.2 rest) := by
  have _ := hE
  intro n
  induction n with
  | zero => intro z h; cases h
  | succ n ih =>
    intro z h
    obtain ⟨zv0, zv1, zv2, zv3, zv4, zv5⟩ := z
    replace h : bd_Mo_goThrough_54 mo md kx (itn (bd_Mo_goThrough_54 mo md kx) n) (zv0, zv1, zv2, zv3, zv4, zv5) = some q := h
    unfold bd_Mo_goThrough_54 at h
    (try dsimp only at h)
    show vv p l e rm_Mo_goThrough sg m args below meth c D clsA A 9 0 0 (MQ below (qcI D clsA A (some (.int q.1)) (WM ad cI cZ mk mu mz mw mo md mr q.2 rest)) args sg rm_Mo_goThrough.cells rm_Mo_goThrough.slots A) 54 [(0, .ref (ad 11)), (1, .int zv0), (2, .int zv1), (3, .int zv2), (4, .int zv3), (5, .int zv4)] [] (WM ad cI cZ mk mu mz mw mo md mr zv5 rest)
    refine r_iload (pc := 54) C d_Mo_goThrough_54 5 rfl ?_
    refine r_aload_n (pc := 56) C d_Mo_goThrough_56 rfl 0 rfl ?_
    refine r_get (pc := 57) (v := .int md.2.2.2.1) C hin_Mo 11 rfl rfl 10 (by decide) mm_20 rfl rfl d_Mo_goThrough_57 ?_
    refine r_icmp_ge (pc := 60) (tgt := 347) C d_Mo_goThrough_60 (by decide) (fun c562 => ?_) (fun c562 => ?_)
    · replace h := ip c562 h
      refine r_loc (lv' := [(0, .ref (ad 11)), (1, .int zv0), (2, .int zv1), (3, .int zv2), (4, .int zv3), (5, .int zv4)]) [0, 1, 2, 3, 4, 5] rfl ?_
      exact K (zv0, zv1, zv2, zv3, zv4, zv5) h
    · replace h := iN c562 h
      refine r_aload_n (pc := 63) C d_Mo_goThrough_63 rfl 0 rfl ?_
      refine r_iload (pc := 64) C d_Mo_goThrough_64 5 rfl ?_
      obtain ⟨q556, hq556, h⟩ := ob h
      refine r_callV (pc := 66) (As := [.int zv4]) (rest := []) (st1 := [.int q556]) hE gg_good C hX (c_Mo_counts_M hE hq556) mm_53 mm_54 mm_55 mm_10 mm_56 hd_Mo_counts 11 rfl rfl ⟨⟨(Nat.le_of_ble_eq_true rfl), (Nat.le_of_ble_eq_true rfl)⟩, (Nat.le_of_ble_eq_true rfl), (Nat.le_of_ble_eq_true rfl)⟩ (Nat.le_of_ble_eq_true rfl) rfl rfl d_Mo_goThrough_66 ?_
      refine r_if_ne (pc := 69) (tgt := 75) C d_Mo_goThrough_69 (by decide) (fun c561 => ?_) (fun c561 => ?_)
      · replace h := iN c561 h
        refine r_aload_n (pc := 75) C d_Mo_goThrough_75 rfl 0 rfl ?_
        refine r_get (pc := 76) (v := .ref (ad 4)) C hin_Mo 11 rfl rfl 14 (by decide) mm_24 rfl rfl d_Mo_goThrough_76 ?_
        refine r_iload (pc := 79) C d_Mo_goThrough_79 5 rfl ?_
        obtain ⟨hi560, h⟩ := ign h
        refine r_zald (pc := 81) C 4 1 rfl rfl hi560 d_Mo_goThrough_81 ?_
        refine r_if_eq (pc := 82) (tgt := 96) C d_Mo_goThrough_82 (by decide) (fun c559 => ?_) (fun c559 => ?_)
        · replace h := ip c559 h
          refine r_aload_n (pc := 96) C d_Mo_goThrough_96 rfl 0 rfl ?_
          refine r_get (pc := 97) (v := .ref (ad 5)) C hin_Mo 11 rfl rfl 13 (by decide) mm_23 rfl rfl d_Mo_goThrough_97 ?_
          refine r_iload (pc := 100) C d_Mo_goThrough_100 5 rfl ?_
          obtain ⟨hi557, h⟩ := ign h
          refine r_iald (pc := 102) C 5 0 rfl rfl hi557 d_Mo_goThrough_102 ?_
          refine r_loc (lv' := [(0, .ref (ad 11)), (1, .int zv0), (2, .int zv1), (3, .int zv2), (4, .int zv3), (5, .int zv4)]) [0, 1, 2, 3, 4, 5] rfl ?_
          exact vj_Mo_goThrough_103_M hE C hr hX K ih (zv0, zv1, zv2, zv3, zv4, md.2.2.2.2.2.2.2.2.1 zv4.toNatClampNeg, zv5) h
        · replace h := iN c559 h
          refine r_aload_n (pc := 85) C d_Mo_goThrough_85 rfl 0 rfl ?_
          refine r_get (pc := 86) (v := .ref (ad 5)) C hin_Mo 11 rfl rfl 13 (by decide) mm_23 rfl rfl d_Mo_goThrough_86 ?_
          refine r_iload (pc := 89) C d_Mo_goThrough_89 5 rfl ?_
          obtain ⟨hi558, h⟩ := ign h
          refine r_iald (pc := 91) C 5 0 rfl rfl hi558 d_Mo_goThrough_91 ?_
          refine r_ineg (pc := 92) C d_Mo_goThrough_92 ?_
          refine r_goto (pc := 93) (tgt := 103) C d_Mo_goThrough_93 (by decide) ?_
          refine r_loc (lv' := [(0, .ref (ad 11)), (1, .int zv0), (2, .int zv1), (3, .int zv2), (4, .int zv3), (5, .int zv4)]) [0, 1, 2, 3, 4, 5] rfl ?_
          exact vj_Mo_goThrough_103_M hE C hr hX K ih (zv0, zv1, zv2, zv3, zv4, -(md.2.2.2.2.2.2.2.2.1 zv4.toNatClampNeg), zv5) h
      · replace h := ip c561 h
        refine r_goto (pc := 72) (tgt := 341) C d_Mo_goThrough_72 (by decide) ?_
        refine r_iincK (pc := 341) (w0 := 1) (lv' := [(5, .int (zv4 + 1)), (0, .ref (ad 11)), (1, .int zv0), (2, .int zv1), (3, .int zv2), (4, .int zv3)]) C d_Mo_goThrough_341 (by decide) 5 rfl (by decide) rfl ?_
        refine r_goto (pc := 344) (tgt := 54) C d_Mo_goThrough_344 (by decide) ?_
        refine r_loc (lv' := [(0, .ref (ad 11)), (1, .int zv0), (2, .int zv1), (3, .int zv2), (4, .int zv3), (5, .int (zv4 + 1))]) [1, 2, 3, 4, 5, 0] rfl ?_
        exact ih (zv0, zv1, zv2, zv3, zv4 + 1, zv5) h
set_option maxHeartbeats 4000000 in
set_option maxRecDepth 100000 in
theorem vl_Mo_goThrough_361_M {l : Launch} {E : State → Heap → Prop} {D : va_G} {A : Nat → Prop} {cI cZ cJ : ClassId} (hE : stb A E) {ad : Nat → Nat} {mk : Int32} {mu : Int64} {mz : Int32} {mw : Int32} {mo : (Nat → Int32)} {md : MD} {mr : MR} {rest : va_W} {p : Program} {e : Env} {sg : State} {m : MethodId} {args : Array Value} {below : List Frame} {meth : Method} {c : Code} (C : cx p sg m args meth c D clsA (TY cI cZ cJ) A GG R_Mo b_Mo_goThrough 9) (hr : meth.sig.returnType = (some .int)) (hX : E sg sg.heap) {q : Int32 × MP} {kx : Int32 × Int32 × Int32 × Int32 × Int32 × MP → Option (Int32 × MP)} (K : ∀ z : Int32 × Int32 × Int32 × Int32 × Int32 × MP, kx z = some q → vv p l e rm_Mo_goThrough sg m args below meth c D clsA A 9 0 0 (MQ below (qcI D clsA A (some (.int q.1)) (WM ad cI cZ mk mu mz mw mo md mr q.2 rest)) args sg rm_Mo_goThrough.cells rm_Mo_goThrough.slots A) 401 [(0, .ref (ad 11)), (1, .int z.1), (2, .int z.2.1), (3, .int z.2.2.1), (4, .int z.2.2.2.1), (5, .int z.2.2.2.2.1)] [] (WM ad cI cZ mk mu mz mw mo md mr z.2.2.2.2.2 rest)) :
    ∀ (n : Nat) (z : Int32 × Int32 × Int32 × Int32 × Int32 × MP), itn (bd_Mo_goThrough_361 mo md kx) n z = some q → vv p l e rm_Mo_goThrough sg m args below meth c D clsA A 9 0 0 (MQ below (qcI D clsA A (some (.int q.1)) (WM ad cI cZ mk mu mz mw mo md mr q.2 rest)) args sg rm_Mo_goThrough.cells rm_Mo_goThrough.slots A) 361 [(0, .ref (ad 11)), (1, .int z.1), (2, .int z.2.1), (3, .int z.2.2.1), (4, .int z.2.2.2.1), (5, .int z.2.2.2.2.1)] [] (WM ad cI cZ mk mu mz mw mo md mr z.2.2.2.2.2 rest) := by
  have _ := hE
  intro n
  induction n with
  | zero => intro z h; cases h
  | succ n ih =>
    intro z h
    obtain ⟨zv0, zv1, zv2, zv3, zv4, zv5⟩ := z
    replace h : bd_Mo_goThrough_361 mo md kx (itn (bd_Mo_goThrough_361 mo md kx) n) (zv0, zv1, zv2, zv3, zv4, zv5) = some q := h
    unfold bd_Mo_goThrough_361 at h
    (try dsimp only at h)
    show vv p l e rm_Mo_goThrough sg m args below meth c D clsA A 9 0 0 (MQ below (qcI D clsA A (some (.int q.1)) (WM ad cI cZ mk mu mz mw mo md mr q.2 rest)) args sg rm_Mo_goThrough.cells rm_Mo_goThrough.slots A) 361 [(0, .ref (ad 11)), (1, .int zv0), (2, .int zv1), (3, .int zv2), (4, .int zv3), (5, .int zv4)] [] (WM ad cI cZ mk mu mz mw mo md mr zv5 rest)
    refine r_iload (pc := 361) C d_Mo_goThrough_361 5 rfl ?_
    refine r_aload_n (pc := 363) C d_Mo_goThrough_363 rfl 0 rfl ?_
    refine r_get (pc := 364) (v := .int md.2.1) C hin_Mo 11 rfl rfl 6 (by decide) mm_16 rfl rfl d_Mo_goThrough_364 ?_
    refine r_icmp_ge (pc := 367) (tgt := 401) C d_Mo_goThrough_367 (by decide) (fun c571 => ?_) (fun c571 => ?_)
    · replace h := ip c571 h
      refine r_loc (lv' := [(0, .ref (ad 11)), (1, .int zv0), (2, .int zv1), (3, .int zv2), (4, .int zv3), (5, .int zv4)]) [0, 1, 2, 3, 4, 5] rfl ?_
      exact K (zv0, zv1, zv2, zv3, zv4, zv5) h
    · replace h := iN c571 h
      refine r_aload_n (pc := 370) C d_Mo_goThrough_370 rfl 0 rfl ?_
      refine r_get (pc := 371) (v := .ref (ad 10)) C hin_Mo 11 rfl rfl 5 (by decide) mm_27 rfl rfl d_Mo_goThrough_371 ?_
      refine r_iload (pc := 374) C d_Mo_goThrough_374 5 rfl ?_
      obtain ⟨hi570, h⟩ := ign h
      refine r_zald (pc := 376) C 10 1 rfl rfl hi570 d_Mo_goThrough_376 ?_
      refine r_if_ne (pc := 377) (tgt := 395) C d_Mo_goThrough_377 (by decide) (fun c569 => ?_) (fun c569 => ?_)
      · replace h := iN c569 h
        refine r_iincK (pc := 395) (w0 := 1) (lv' := [(5, .int (zv4 + 1)), (0, .ref (ad 11)), (1, .int zv0), (2, .int zv1), (3, .int zv2), (4, .int zv3)]) C d_Mo_goThrough_395 (by decide) 5 rfl (by decide) rfl ?_
        refine r_goto (pc := 398) (tgt := 361) C d_Mo_goThrough_398 (by decide) ?_
        refine r_loc (lv' := [(0, .ref (ad 11)), (1, .int zv0), (2, .int zv1), (3, .int zv2), (4, .int zv3), (5, .int (zv4 + 1))]) [1, 2, 3, 4, 5, 0] rfl ?_
        exact ih (zv0, zv1, zv2, zv3, zv4 + 1, zv5) h
      · replace h := ip c569 h
        refine r_iload (pc := 380) C d_Mo_goThrough_380 4 rfl ?_
        refine r_iload (pc := 382) C d_Mo_goThrough_382 5 rfl ?_
        refine r_ishr (pc := 384) C d_Mo_goThrough_384 ?_
        refine r_iconst (pc := 385) (v := 1) C d_Mo_goThrough_385 (by decide) ?_
        refine r_iand (pc := 386) C d_Mo_goThrough_386 ?_
        refine r_if_ne (pc := 387) (tgt := 395) C d_Mo_goThrough_387 (by decide) (fun c568 => ?_) (fun c568 => ?_)
        · replace h := iN c568 h
          refine r_iincK (pc := 395) (w0 := 1) (lv' := [(5, .int (zv4 + 1)), (0, .ref (ad 11)), (1, .int zv0), (2, .int zv1), (3, .int zv2), (4, .int zv3)]) C d_Mo_goThrough_395 (by decide) 5 rfl (by decide) rfl ?_
          refine r_goto (pc := 398) (tgt := 361) C d_Mo_goThrough_398 (by decide) ?_
          refine r_loc (lv' := [(0, .ref (ad 11)), (1, .int zv0), (2, .int zv1), (3, .int zv2), (4, .int zv3), (5, .int (zv4 + 1))]) [1, 2, 3, 4, 5, 0] rfl ?_
          exact ih (zv0, zv1, zv2, zv3, zv4 + 1, zv5) h
        · replace h := ip c568 h
          refine r_iload_n (pc := 390) C d_Mo_goThrough_390 rfl 1 rfl ?_
          refine r_bipush (pc := 391) (v := 32) C d_Mo_goThrough_391 (by decide) ?_
          refine r_ior (pc := 393) C d_Mo_goThrough_393 ?_
          refine r_istore_n (pc := 394) (lv' := [(1, .int (zv0 ||| (32 : Int32))), (0, .ref (ad 11)), (2, .int zv1), (3, .int zv2), (4, .int zv3), (5, .int zv4)]) C d_Mo_goThrough_394 rfl (by decide) rfl ?_
          refine r_iincK (pc := 395) (w0 := 1) (lv' := [(5, .int (zv4 + 1)), (1, .int (zv0 ||| (32 : Int32))), (0, .ref (ad 11)), (2, .int zv1), (3, .int zv2), (4, .int zv3)]) C d_Mo_goThrough_395 (by decide) 5 rfl (by decide) rfl ?_
          refine r_goto (pc := 398) (tgt := 361) C d_Mo_goThrough_398 (by decide) ?_
          refine r_loc (lv' := [(0, .ref (ad 11)), (1, .int (zv0 ||| (32 : Int32))), (2, .int zv1), (3, .int zv2), (4, .int zv3), (5, .int (zv4 + 1))]) [2, 1, 3, 4, 5, 0] rfl ?_
          exact ih (zv0 ||| (32 : Int32), zv1, zv2, zv3, zv4 + 1, zv5) h
set_option maxHeartbeats 4000000 in
set_option maxRecDepth 100000 in
theorem vj_Mo_goThrough_358_M {l : Launch} {E : State → Heap → Prop} {D : va_G} {A : Nat → Prop} {cI cZ cJ : ClassId} (hE : stb A E) {ad : Nat → Nat} {mk : Int32} {mu : Int64} {mz : Int32} {mw : Int32} {mo : (Nat → Int32)} {md : MD} {mr : MR} {rest : va_W} {p : Program} {e : Env} {sg : State} {m : MethodId} {args : Array Value} {below : List Frame} {meth : Method} {c : Code} (C : cx p sg m args meth c D clsA (TY cI cZ cJ) A GG R_Mo b_Mo_goThrough 9) (hr : meth.sig.returnType = (some .int)) (hX : E sg sg.heap) {q : Int32 × MP} :
    ∀ z : Int32 × Int32 × Int32 × Int32 × MP, jn_Mo_goThrough_358 mo md z = some q → vv p l e rm_Mo_goThrough sg m args below meth c D clsA A 9 0 0 (MQ below (qcI D clsA A (some (.int q.1)) (WM ad cI cZ mk mu mz mw mo md mr q.2 rest)) args sg rm_Mo_goThrough.cells rm_Mo_goThrough.slots A) 358 [(0, .ref (ad 11)), (1, .int z.1), (2, .int z.2.1), (3, .int z.2.2.1), (4, .int z.2.2.2.1)] [] (WM ad cI cZ mk mu mz mw mo md mr z.2.2.2.2 rest) := by
  have _ := hE
  intro z h
  obtain ⟨zv0, zv1, zv2, zv3, zv4⟩ := z
  unfold jn_Mo_goThrough_358 at h
  (try dsimp only at h)
  show vv p l e rm_Mo_goThrough sg m args below meth c D clsA A 9 0 0 (MQ below (qcI D clsA A (some (.int q.1)) (WM ad cI cZ mk mu mz mw mo md mr q.2 rest)) args sg rm_Mo_goThrough.cells rm_Mo_goThrough.slots A) 358 [(0, .ref (ad 11)), (1, .int zv0), (2, .int zv1), (3, .int zv2), (4, .int zv3)] [] (WM ad cI cZ mk mu mz mw mo md mr zv4 rest)
  refine r_iconst (pc := 358) (v := 0) C d_Mo_goThrough_358 (by decide) ?_
  refine r_istore (pc := 359) (lv' := [(5, .int (0)), (0, .ref (ad 11)), (1, .int zv0), (2, .int zv1), (3, .int zv2), (4, .int zv3)]) C d_Mo_goThrough_359 (by decide) rfl ?_
  refine r_loc (lv' := [(0, .ref (ad 11)), (1, .int zv0), (2, .int zv1), (3, .int zv2), (4, .int zv3), (5, .int (0))]) [1, 2, 3, 4, 5, 0] rfl ?_
  refine vl_Mo_goThrough_361_M hE C hr hX (fun z573 h => ?_) 70 (zv0, zv1, zv2, zv3, 0, zv4) h
  refine r_iload_n (pc := 401) C d_Mo_goThrough_401 rfl 1 rfl ?_
  cases h
  exact r_iret (pc := 402) C hr rfl rfl rfl d_Mo_goThrough_402
set_option maxHeartbeats 4000000 in
set_option maxRecDepth 100000 in
theorem c_Mo_goThrough_M {l : Launch} {E : State → Heap → Prop} {D : va_G} {A : Nat → Prop} {cI cZ cJ : ClassId} (hE : stb A E) {ad : Nat → Nat} {mk : Int32} {mu : Int64} {mz : Int32} {mw : Int32} {mo : (Nat → Int32)} {md : MD} {mr : MR} {mp : MP} {rest : va_W} {q : Int32 × MP} (h : f_Mo_goThrough mo md mp = some q) : cm l E D clsA (TY cI cZ cJ) A GG y_Mo_goThrough b_Mo_goThrough 9 (some .int) rm_Mo_goThrough [.ref (ad 11)] (WM ad cI cZ mk mu mz mw mo md mr mp rest) (some (.int q.1)) (WM ad cI cZ mk mu mz mw mo md mr q.2 rest) := by
  refine r_met (own := R_Mo) rfl (by decide) (Nat.le_of_ble_eq_true rfl) rfl ?_
  intro p e sg m args below meth c C hr hnm hX
  unfold f_Mo_goThrough at h
  refine r_iconst (pc := 0) (v := 0) C d_Mo_goThrough_0 (by decide) ?_
  refine r_istore_n (pc := 1) (lv' := [(1, .int (0)), (0, .ref (ad 11))]) C d_Mo_goThrough_1 rfl (by decide) rfl ?_
  refine r_loc (lv' := [(0, .ref (ad 11)), (1, .int (0))]) [1, 0] rfl ?_
  refine vl_Mo_goThrough_2_M hE C hr hX (fun z475 h => ?_) 70 (0, mp) h
  refine r_iconst (pc := 21) (v := 0) C d_Mo_goThrough_21 (by decide) ?_
  refine r_istore_n (pc := 22) (lv' := [(1, .int (0)), (0, .ref (ad 11))]) C d_Mo_goThrough_22 rfl (by decide) rfl ?_
  refine r_loc (lv' := [(0, .ref (ad 11)), (1, .int (0))]) [1, 0] rfl ?_
  refine vl_Mo_goThrough_23_M hE C hr hX (fun z480 h => ?_) 70 (0, z475.2) h
  refine r_iconst (pc := 42) (v := 0) C d_Mo_goThrough_42 (by decide) ?_
  refine r_istore_n (pc := 43) (lv' := [(1, .int (0)), (0, .ref (ad 11))]) C d_Mo_goThrough_43 rfl (by decide) rfl ?_
  refine r_iconst (pc := 44) (v := (-1)) C d_Mo_goThrough_44 (by decide) ?_
  refine r_istore_n (pc := 45) (lv' := [(2, .int (-1)), (1, .int (0)), (0, .ref (ad 11))]) C d_Mo_goThrough_45 rfl (by decide) rfl ?_
  refine r_iconst (pc := 46) (v := 0) C d_Mo_goThrough_46 (by decide) ?_
  refine r_istore_n (pc := 47) (lv' := [(3, .int (0)), (2, .int (-1)), (1, .int (0)), (0, .ref (ad 11))]) C d_Mo_goThrough_47 rfl (by decide) rfl ?_
  refine r_iconst (pc := 48) (v := 0) C d_Mo_goThrough_48 (by decide) ?_
  refine r_istore (pc := 49) (lv' := [(4, .int (0)), (3, .int (0)), (2, .int (-1)), (1, .int (0)), (0, .ref (ad 11))]) C d_Mo_goThrough_49 (by decide) rfl ?_
  refine r_iconst (pc := 51) (v := 0) C d_Mo_goThrough_51 (by decide) ?_
  refine r_istore (pc := 52) (lv' := [(5, .int (0)), (4, .int (0)), (3, .int (0)), (2, .int (-1)), (1, .int (0)), (0, .ref (ad 11))]) C d_Mo_goThrough_52 (by decide) rfl ?_
  refine r_loc (lv' := [(0, .ref (ad 11)), (1, .int (0)), (2, .int (-1)), (3, .int (0)), (4, .int (0)), (5, .int (0))]) [5, 4, 3, 2, 1, 0] rfl ?_
  refine vl_Mo_goThrough_54_M hE C hr hX (fun z563 h => ?_) 70 (0, (-1), 0, 0, 0, z480.2) h
  refine r_iload_n (pc := 347) C d_Mo_goThrough_347 rfl 3 rfl ?_
  refine r_iconst (pc := 348) (v := 2) C d_Mo_goThrough_348 (by decide) ?_
  obtain ⟨hz575, h⟩ := ign h
  refine r_irem (pc := 349) C d_Mo_goThrough_349 hz575 ?_
  refine r_if_eq (pc := 350) (tgt := 358) C d_Mo_goThrough_350 (by decide) (fun c574 => ?_) (fun c574 => ?_)
  · replace h := ip c574 h
    refine r_loc (lv' := [(0, .ref (ad 11)), (1, .int z563.1), (2, .int z563.2.1), (3, .int z563.2.2.1), (4, .int z563.2.2.2.1)]) [0, 1, 2, 3, 4] rfl ?_
    exact vj_Mo_goThrough_358_M hE C hr hX (z563.1, z563.2.1, z563.2.2.1, z563.2.2.2.1, z563.2.2.2.2.2) h
  · replace h := iN c574 h
    refine r_iload_n (pc := 353) C d_Mo_goThrough_353 rfl 1 rfl ?_
    refine r_bipush (pc := 354) (v := 16) C d_Mo_goThrough_354 (by decide) ?_
    refine r_ior (pc := 356) C d_Mo_goThrough_356 ?_
    refine r_istore_n (pc := 357) (lv' := [(1, .int (z563.1 ||| (16 : Int32))), (0, .ref (ad 11)), (2, .int z563.2.1), (3, .int z563.2.2.1), (4, .int z563.2.2.2.1), (5, .int z563.2.2.2.2.1)]) C d_Mo_goThrough_357 rfl (by decide) rfl ?_
    refine r_loc (lv' := [(0, .ref (ad 11)), (1, .int (z563.1 ||| (16 : Int32))), (2, .int z563.2.1), (3, .int z563.2.2.1), (4, .int z563.2.2.2.1)]) [1, 0, 2, 3, 4] rfl ?_
    exact vj_Mo_goThrough_358_M hE C hr hX (z563.1 ||| (16 : Int32), z563.2.1, z563.2.2.1, z563.2.2.2.1, z563.2.2.2.2.2) h
