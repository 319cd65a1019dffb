theorem look_x : True := trivial
