/-! the law, call by call: 39 to 45 -/
section LL
variable {ω ω' : xO} {κ : xK} {l : Launch} {b L : Nat} {xs : Nat → Int32} {ki vi : Nat → Nat} {kss : Nat → Option Nat} {i K : Int} {C N : xMem}
theorem dL_1320 : decode code 1320 = .ok (.aload_n 1, 1) := by decide +kernel
theorem dL_1321 : decode code 1321 = .ok (.aload_n 0, 1) := by decide +kernel
theorem dL_1322 : decode code 1322 = .ok (.iload_n 3, 1) := by decide +kernel
theorem dL_1323 : decode code 1323 = .ok (.iconst 1, 1) := by decide +kernel
theorem dL_1324 : decode code 1324 = .ok (.iadd, 1) := by decide +kernel
theorem dL_1325 : decode code 1325 = .ok (.iaload, 1) := by decide +kernel
theorem dL_1326 : decode code 1326 = .ok (.invokevirtual 175, 3) := by decide +kernel
theorem dL_1329 : decode code 1329 = .ok (.aload_n 2, 1) := by decide +kernel
theorem dL_1330 : decode code 1330 = .ok (.aload_n 0, 1) := by decide +kernel
theorem dL_1331 : decode code 1331 = .ok (.iload_n 3, 1) := by decide +kernel
theorem dL_1332 : decode code 1332 = .ok (.iconst 1, 1) := by decide +kernel
theorem dL_1333 : decode code 1333 = .ok (.iadd, 1) := by decide +kernel
theorem dL_1334 : decode code 1334 = .ok (.iaload, 1) := by decide +kernel
theorem dL_1335 : decode code 1335 = .ok (.invokevirtual 178, 3) := by decide +kernel
theorem dL_1338 : decode code 1338 = .ok (.if_icmp .eq 113, 3) := by decide +kernel
set_option maxHeartbeats 800000 in
set_option maxRecDepth 100000 in
theorem L_39 (h : LOk ω ω' κ l b L xs ki vi kss) (hi : 0 ≤ i ∧ i + 6 ≤ (L : Int)) (hk : kI K) (hW : Wo K C N) (hF : Fc N) (kk : ∀ C' N', Wo (K + 100) C' N' → Fc N' → LW ω ω' κ b i 1451 [] C' N') : LW ω ω' κ b i 1320 [] C N := by
  refine l_xr fun hx _ => ?_
  have hI := hW.inv
  have hs := h.2.1.2.2.2.2.1
  have hm := h.2.2.1.2.2.2.2.1
  refine l_a1 h dL_1320 ?_
  refine l_arg h hi 1 (by decide) dL_1321 dL_1322 dL_1323 dL_1324 dL_1325 ?_
  refine l_C (As := [.int (iI (az xs i 1))]) (rest := []) h dL_1326 m_ml_L_175 m_im_X6_load m_se_X6_load rfl (by decide) rfl rfl rfl (c_X6_load hs hI.1 (az_R _ _ _)) ?_
  refine l_a2 h dL_1329 ?_
  refine l_arg h hi 1 (by decide) dL_1330 dL_1331 dL_1332 dL_1333 dL_1334 ?_
  refine l_N (As := [.int (iI (az xs i 1))]) (rest := [_]) h dL_1335 m_ml_L_178 m_im_X7_load m_se_X7_load rfl (by decide) rfl rfl rfl (c_X7_load hm hI.2 hW.sz (az_R _ _ _)) ?_
  have w := w_load (s := az xs i 1) hW hk
  exact l_eq h dL_1338 rfl w.1 (kk _ _ w.2 (F_load hF))
theorem dL_1343 : decode code 1343 = .ok (.aload_n 1, 1) := by decide +kernel
theorem dL_1344 : decode code 1344 = .ok (.aload_n 0, 1) := by decide +kernel
theorem dL_1345 : decode code 1345 = .ok (.iload_n 3, 1) := by decide +kernel
theorem dL_1346 : decode code 1346 = .ok (.iconst 1, 1) := by decide +kernel
theorem dL_1347 : decode code 1347 = .ok (.iadd, 1) := by decide +kernel
theorem dL_1348 : decode code 1348 = .ok (.iaload, 1) := by decide +kernel
theorem dL_1349 : decode code 1349 = .ok (.invokevirtual 179, 3) := by decide +kernel
theorem dL_1352 : decode code 1352 = .ok (.aload_n 2, 1) := by decide +kernel
theorem dL_1353 : decode code 1353 = .ok (.aload_n 0, 1) := by decide +kernel
theorem dL_1354 : decode code 1354 = .ok (.iload_n 3, 1) := by decide +kernel
theorem dL_1355 : decode code 1355 = .ok (.iconst 1, 1) := by decide +kernel
theorem dL_1356 : decode code 1356 = .ok (.iadd, 1) := by decide +kernel
theorem dL_1357 : decode code 1357 = .ok (.iaload, 1) := by decide +kernel
theorem dL_1358 : decode code 1358 = .ok (.invokevirtual 182, 3) := by decide +kernel
theorem dL_1361 : decode code 1361 = .ok (.if_icmp .eq 90, 3) := by decide +kernel
set_option maxHeartbeats 800000 in
set_option maxRecDepth 100000 in
theorem L_40 (h : LOk ω ω' κ l b L xs ki vi kss) (hi : 0 ≤ i ∧ i + 6 ≤ (L : Int)) (hk : kI K) (hW : Wo K C N) (hF : Fc N) (kk : ∀ C' N', Wo (K + 100) C' N' → Fc N' → LW ω ω' κ b i 1451 [] C' N') : LW ω ω' κ b i 1343 [] C N := by
  refine l_xr fun hx _ => ?_
  have hI := hW.inv
  have hs := h.2.1.2.2.2.2.1
  have hm := h.2.2.1.2.2.2.2.1
  refine l_a1 h dL_1343 ?_
  refine l_arg h hi 1 (by decide) dL_1344 dL_1345 dL_1346 dL_1347 dL_1348 ?_
  refine l_C (As := [.int (iI (az xs i 1))]) (rest := []) h dL_1349 m_ml_L_179 m_im_X6_judge m_se_X6_judge rfl (by decide) rfl rfl rfl (c_X6_judge hs hI.1 (az_R _ _ _)) ?_
  refine l_a2 h dL_1352 ?_
  refine l_arg h hi 1 (by decide) dL_1353 dL_1354 dL_1355 dL_1356 dL_1357 ?_
  refine l_Nq (As := [.int (iI (az xs i 1))]) (rest := [_]) h dL_1358 m_ml_L_182 m_im_X7_judge m_se_X7_judge rfl (by decide) rfl rfl rfl (c_X7_judge hm hI.2 hF hW.sz (az_R _ _ _) hW.cl) (fun ρ N1 hp => ?_)
  obtain ⟨z, rfl, rfl, hq⟩ := hp
  have w := w_judge (s := az xs i 1) hW hx hk
  exact l_eq h dL_1361 rfl w.1 (kk _ _ (w.2.qe hq) hq.2)
theorem dL_1366 : decode code 1366 = .ok (.aload_n 1, 1) := by decide +kernel
theorem dL_1367 : decode code 1367 = .ok (.invokevirtual 183, 3) := by decide +kernel
theorem dL_1370 : decode code 1370 = .ok (.aload_n 2, 1) := by decide +kernel
theorem dL_1371 : decode code 1371 = .ok (.invokevirtual 186, 3) := by decide +kernel
theorem dL_1374 : decode code 1374 = .ok (.if_icmp .eq 77, 3) := by decide +kernel
set_option maxHeartbeats 800000 in
set_option maxRecDepth 100000 in
theorem L_41 (h : LOk ω ω' κ l b L xs ki vi kss) (hi : 0 ≤ i ∧ i + 6 ≤ (L : Int)) (hk : kI K) (hW : Wo K C N) (hF : Fc N) (kk : ∀ C' N', Wo (K + 100) C' N' → Fc N' → LW ω ω' κ b i 1451 [] C' N') : LW ω ω' κ b i 1366 [] C N := by
  refine l_xr fun hx _ => ?_
  have hI := hW.inv
  have hs := h.2.1.2.2.2.2.1
  have hm := h.2.2.1.2.2.2.2.1
  refine l_a1 h dL_1366 ?_
  refine l_C (As := []) (rest := []) h dL_1367 m_ml_L_183 m_im_X6_image m_se_X6_image rfl (by decide) rfl rfl rfl (c_X6_image hs hI.1) ?_
  refine l_a2 h dL_1370 ?_
  refine l_N (As := []) (rest := [_]) h dL_1371 m_ml_L_186 m_im_X7_image m_se_X7_image rfl (by decide) rfl rfl rfl (c_X7_image hm) ?_
  have w := w_image  hW hk
  exact l_eq h dL_1374 rfl w.1 (kk _ _ w.2 (F_image hF))
theorem dL_1379 : decode code 1379 = .ok (.aload_n 1, 1) := by decide +kernel
theorem dL_1380 : decode code 1380 = .ok (.invokevirtual 187, 3) := by decide +kernel
theorem dL_1383 : decode code 1383 = .ok (.aload_n 2, 1) := by decide +kernel
theorem dL_1384 : decode code 1384 = .ok (.invokevirtual 190, 3) := by decide +kernel
theorem dL_1387 : decode code 1387 = .ok (.if_icmp .eq 64, 3) := by decide +kernel
set_option maxHeartbeats 800000 in
set_option maxRecDepth 100000 in
theorem L_42 (h : LOk ω ω' κ l b L xs ki vi kss) (hi : 0 ≤ i ∧ i + 6 ≤ (L : Int)) (hk : kI K) (hW : Wo K C N) (hF : Fc N) (kk : ∀ C' N', Wo (K + 100) C' N' → Fc N' → LW ω ω' κ b i 1451 [] C' N') : LW ω ω' κ b i 1379 [] C N := by
  refine l_xr fun hx _ => ?_
  have hI := hW.inv
  have hs := h.2.1.2.2.2.2.1
  have hm := h.2.2.1.2.2.2.2.1
  refine l_a1 h dL_1379 ?_
  refine l_C (As := []) (rest := []) h dL_1380 m_ml_L_187 m_im_X6_undo m_se_X6_undo rfl (by decide) rfl rfl rfl (c_X6_undo hs hI.1) ?_
  refine l_a2 h dL_1383 ?_
  refine l_N (As := []) (rest := [_]) h dL_1384 m_ml_L_190 m_im_X7_undo m_se_X7_undo rfl (by decide) rfl rfl rfl (c_X7_undo hm) ?_
  have w := w_undo  hW hk
  exact l_eq h dL_1387 rfl w.1 (kk _ _ w.2 (F_undo hF))
theorem dL_1392 : decode code 1392 = .ok (.aload_n 1, 1) := by decide +kernel
theorem dL_1393 : decode code 1393 = .ok (.invokevirtual 191, 3) := by decide +kernel
theorem dL_1396 : decode code 1396 = .ok (.aload_n 2, 1) := by decide +kernel
theorem dL_1397 : decode code 1397 = .ok (.invokevirtual 194, 3) := by decide +kernel
theorem dL_1400 : decode code 1400 = .ok (.if_icmp .eq 51, 3) := by decide +kernel
set_option maxHeartbeats 800000 in
set_option maxRecDepth 100000 in
theorem L_43 (h : LOk ω ω' κ l b L xs ki vi kss) (hi : 0 ≤ i ∧ i + 6 ≤ (L : Int)) (hk : kI K) (hW : Wo K C N) (hF : Fc N) (kk : ∀ C' N', Wo (K + 100) C' N' → Fc N' → LW ω ω' κ b i 1451 [] C' N') : LW ω ω' κ b i 1392 [] C N := by
  refine l_xr fun hx _ => ?_
  have hI := hW.inv
  have hs := h.2.1.2.2.2.2.1
  have hm := h.2.2.1.2.2.2.2.1
  refine l_a1 h dL_1392 ?_
  refine l_C (As := []) (rest := []) h dL_1393 m_ml_L_191 m_im_X6_tear m_se_X6_tear rfl (by decide) rfl rfl rfl (c_X6_tear hs hI.1) ?_
  refine l_a2 h dL_1396 ?_
  refine l_N (As := []) (rest := [_]) h dL_1397 m_ml_L_194 m_im_X7_tear m_se_X7_tear rfl (by decide) rfl rfl rfl (c_X7_tear hm) ?_
  have w := w_tear  hW hk
  exact l_eq h dL_1400 rfl w.1 (kk _ _ w.2 (F_u0 (by decide) hF))
theorem dL_1405 : decode code 1405 = .ok (.aload_n 1, 1) := by decide +kernel
theorem dL_1406 : decode code 1406 = .ok (.aload_n 0, 1) := by decide +kernel
theorem dL_1407 : decode code 1407 = .ok (.iload_n 3, 1) := by decide +kernel
theorem dL_1408 : decode code 1408 = .ok (.iconst 1, 1) := by decide +kernel
theorem dL_1409 : decode code 1409 = .ok (.iadd, 1) := by decide +kernel
theorem dL_1410 : decode code 1410 = .ok (.iaload, 1) := by decide +kernel
theorem dL_1411 : decode code 1411 = .ok (.invokevirtual 195, 3) := by decide +kernel
theorem dL_1414 : decode code 1414 = .ok (.aload_n 2, 1) := by decide +kernel
theorem dL_1415 : decode code 1415 = .ok (.aload_n 0, 1) := by decide +kernel
theorem dL_1416 : decode code 1416 = .ok (.iload_n 3, 1) := by decide +kernel
theorem dL_1417 : decode code 1417 = .ok (.iconst 1, 1) := by decide +kernel
theorem dL_1418 : decode code 1418 = .ok (.iadd, 1) := by decide +kernel
theorem dL_1419 : decode code 1419 = .ok (.iaload, 1) := by decide +kernel
theorem dL_1420 : decode code 1420 = .ok (.invokevirtual 198, 3) := by decide +kernel
theorem dL_1423 : decode code 1423 = .ok (.if_icmp .eq 28, 3) := by decide +kernel
set_option maxHeartbeats 800000 in
set_option maxRecDepth 100000 in
theorem L_44 (h : LOk ω ω' κ l b L xs ki vi kss) (hi : 0 ≤ i ∧ i + 6 ≤ (L : Int)) (hk : kI K) (hW : Wo K C N) (hF : Fc N) (kk : ∀ C' N', Wo (K + 100) C' N' → Fc N' → LW ω ω' κ b i 1451 [] C' N') : LW ω ω' κ b i 1405 [] C N := by
  refine l_xr fun hx _ => ?_
  have hI := hW.inv
  have hs := h.2.1.2.2.2.2.1
  have hm := h.2.2.1.2.2.2.2.1
  refine l_a1 h dL_1405 ?_
  refine l_arg h hi 1 (by decide) dL_1406 dL_1407 dL_1408 dL_1409 dL_1410 ?_
  refine l_C (As := [.int (iI (az xs i 1))]) (rest := []) h dL_1411 m_ml_L_195 m_im_X6_count m_se_X6_count rfl (by decide) rfl rfl rfl (c_X6_count hs hI.1 (az_R _ _ _)) ?_
  refine l_a2 h dL_1414 ?_
  refine l_arg h hi 1 (by decide) dL_1415 dL_1416 dL_1417 dL_1418 dL_1419 ?_
  refine l_N (As := [.int (iI (az xs i 1))]) (rest := [_]) h dL_1420 m_ml_L_198 m_im_X7_count m_se_X7_count rfl (by decide) rfl rfl rfl (c_X7_count hm hI.2 (az_R _ _ _)) ?_
  have w := w_count (v := az xs i 1) hW hk
  exact l_eq h dL_1423 rfl w.1 (kk _ _ w.2 (F_count hF))
theorem dL_1428 : decode code 1428 = .ok (.aload_n 1, 1) := by decide +kernel
theorem dL_1429 : decode code 1429 = .ok (.aload_n 0, 1) := by decide +kernel
theorem dL_1430 : decode code 1430 = .ok (.iload_n 3, 1) := by decide +kernel
theorem dL_1431 : decode code 1431 = .ok (.iconst 1, 1) := by decide +kernel
theorem dL_1432 : decode code 1432 = .ok (.iadd, 1) := by decide +kernel
theorem dL_1433 : decode code 1433 = .ok (.iaload, 1) := by decide +kernel
theorem dL_1434 : decode code 1434 = .ok (.invokevirtual 199, 3) := by decide +kernel
theorem dL_1437 : decode code 1437 = .ok (.aload_n 2, 1) := by decide +kernel
theorem dL_1438 : decode code 1438 = .ok (.aload_n 0, 1) := by decide +kernel
theorem dL_1439 : decode code 1439 = .ok (.iload_n 3, 1) := by decide +kernel
theorem dL_1440 : decode code 1440 = .ok (.iconst 1, 1) := by decide +kernel
theorem dL_1441 : decode code 1441 = .ok (.iadd, 1) := by decide +kernel
theorem dL_1442 : decode code 1442 = .ok (.iaload, 1) := by decide +kernel
theorem dL_1443 : decode code 1443 = .ok (.invokevirtual 202, 3) := by decide +kernel
theorem dL_1446 : decode code 1446 = .ok (.if_icmp .eq 5, 3) := by decide +kernel
set_option maxHeartbeats 800000 in
set_option maxRecDepth 100000 in
theorem L_45 (h : LOk ω ω' κ l b L xs ki vi kss) (hi : 0 ≤ i ∧ i + 6 ≤ (L : Int)) (hk : kI K) (hW : Wo K C N) (hF : Fc N) (kk : ∀ C' N', Wo (K + 100) C' N' → Fc N' → LW ω ω' κ b i 1451 [] C' N') : LW ω ω' κ b i 1428 [] C N := by
  refine l_xr fun hx _ => ?_
  have hI := hW.inv
  have hs := h.2.1.2.2.2.2.1
  have hm := h.2.2.1.2.2.2.2.1
  refine l_a1 h dL_1428 ?_
  refine l_arg h hi 1 (by decide) dL_1429 dL_1430 dL_1431 dL_1432 dL_1433 ?_
  refine l_C (As := [.int (iI (az xs i 1))]) (rest := []) h dL_1434 m_ml_L_199 m_im_X6_status m_se_X6_status rfl (by decide) rfl rfl rfl (c_X6_status hs hI.1 (az_R _ _ _)) ?_
  refine l_a2 h dL_1437 ?_
  refine l_arg h hi 1 (by decide) dL_1438 dL_1439 dL_1440 dL_1441 dL_1442 ?_
  refine l_N (As := [.int (iI (az xs i 1))]) (rest := [_]) h dL_1443 m_ml_L_202 m_im_X7_status m_se_X7_status rfl (by decide) rfl rfl rfl (c_X7_status hm (az_R _ _ _)) ?_
  have w := w_status (x := az xs i 1) hW hk
  exact l_eq h dL_1446 rfl w.1 (kk _ _ w.2 (F_status hF))
end LL
