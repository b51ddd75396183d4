set_option maxRecDepth 200000 in
set_option maxHeartbeats 40000000 in
theorem wA_eq {cy : Nat → ClassId} {q : Nat} {u : Nat → Nat} : askFW cy q u = DLa.map (fun p => (adA q u p.1, cellOf (adA q u) cy p.2)) := rfl
set_option maxRecDepth 200000 in
set_option maxHeartbeats 40000000 in
theorem wM_eq {cy : Nat → ClassId} {q : Nat} {u : Nat → Nat} : modFW cy q u = DLm.map (fun p => (adA q u (p.1 - 830), cellOf (fun c => adA q u (c - 830)) cy p.2)) := rfl
