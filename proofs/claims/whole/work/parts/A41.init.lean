/-! THE START: both constructors run -/
def xem : xS := ([], (fun _ _ => 0), (fun _ _ => none), (fun _ _ => 0))
def xrn1 : xO := xrun true 3000 40 10 cX11_init none true 0 [.ref 0, .float 0] [] (xNew xem 10 19)
def xrn2 (S : xS) : xO := xrun true 3000 40 11 cX12_init none true 0 [.ref 187] [] (xNew S 11 83)
def xints : List (Nat × Nat × Nat) := [(0, 11, 0), (0, 13, 0), (0, 18, 0), (1, 1, 0), (70, 0, 0), (73, 3, 0),
  (18, 9, 0), (24, 9, 0), (30, 9, 0), (36, 9, 0), (42, 9, 0), (48, 9, 0),
  (12, 0, 1), (12, 1, 0), (12, 2, 0), (12, 3, 0), (12, 4, 0), (12, 5, 1), (12, 6, 0), (12, 7, 1), (11, 2, 1), (13, 0, 0),
  (5, 0, 17842449), (5, 2, 0), (5, 4, 0), (5, 5, 0), (60, 3, 1), (62, 0, 0), (62, 1, 1), (61, 0, 97), (63, 0, 1), (64, 3, 1), (66, 0, 0), (66, 1, 1), (65, 0, 97),
  (187, 2, 0), (187, 9, 0), (187, 43, 0), (187, 72, 0), (187, 12, 17842449), (187, 13, 0), (187, 14, 0), (187, 15, 0), (187, 30, 1), (187, 31, 1), (187, 49, 1),
  (203, 0, 0), (203, 1, 0), (203, 2, 0), (203, 3, 0), (203, 4, 0), (203, 5, 0), (208, 0, 1), (208, 1, 0), (208, 2, 0), (208, 3, 0), (208, 4, 0), (208, 5, 1), (208, 6, 0), (210, 0, 0), (196, 0, 1), (197, 0, 1), (195, 1700, 97), (195, 1844, 97)]
def xrefs : List (Nat × Nat × Nat) := [(0, 2, 5), (0, 3, 8), (0, 4, 11), (0, 5, 14), (0, 7, 54), (0, 8, 60), (0, 9, 64), (0, 10, 68), (17, 0, 18), (17, 1, 24), (17, 2, 30), (17, 3, 36), (17, 4, 42), (17, 5, 48)]
def xchkI (S : xS) : Bool := xints.all (fun e => decide (S.2.1 e.1 e.2.1 = Int32.ofNat e.2.2))
def xchkR (S : xS) : Bool := xrefs.all (fun e => decide (S.2.2.1 e.1 e.2.1 = some e.2.2)) && xRTl.all (fun e => e.2.all (fun q => decide (S.2.2.1 e.1 q.1 = some q.2)))
def xchkN (S : xS) : Bool := (List.range 2048).all (fun x => decide (S.2.1 131 x = 0))
def xchkA (S : xS) : Bool := decide (S.1 = xSH) && xchkI S && xchkR S && xchkN S
def xck2 : xO → Bool
  | some (none, S2) => xchkA (xNew S2 24 1) && decide (S2.1.length = 230)
  | _ => false
def xck1 : xO → Bool
  | some (none, S) => xck2 (xrn2 S) && decide (S.1.length = 187)
  | _ => false
set_option maxRecDepth 1000000 in
theorem xrun_ok : xck1 xrn1 = true := by decide +kernel
