theorem zz_stub : True := trivial
